/-! THE ANSWERS (S_) AND CHANGES (U_) of the calls, over the model's cells μ -/
def S_sine (r co : Int) : Int := if 0 ≤ r ∧ r ≤ 3199 then (if co ≠ 0 then zcosine r else zsine r) else -2002
def S_way (a b : Int) : Int := if (0 ≤ a ∧ a ≤ 3199) ∧ (0 ≤ b ∧ b ≤ 3199) then zway a b else -2002
def S_part (μ : fnMem) (c p v : Int) : Int := if ¬ ((0 ≤ c ∧ c ≤ 2) ∧ (0 ≤ p ∧ p ≤ 5)) then -2001 else if ¬ (-999 ≤ v ∧ v ≤ 999) then -2002 else μ 1 (6 * c + p)
def U_part (μ : fnMem) (c p v : Int) : fnMem := if ((0 ≤ c ∧ c ≤ 2) ∧ (0 ≤ p ∧ p ≤ 5)) ∧ (-999 ≤ v ∧ v ≤ 999) then fnUp μ 1 (6 * c + p) v else μ
def S_told (μ : fnMem) (c p : Int) : Int := if (0 ≤ c ∧ c ≤ 2) ∧ (0 ≤ p ∧ p ≤ 5) then μ 1 (6 * c + p) else -2001
def S_error (μ : fnMem) (c h g : Int) : Int := if ¬ ((0 ≤ c ∧ c ≤ 2) ∧ (0 ≤ h ∧ h ≤ 31)) then -2001 else if ¬ (-30 ≤ g ∧ g ≤ 30) then -2002 else zer (vP μ c) h g
def S_errorAt (μ : fnMem) (c r g : Int) : Int := if ¬ (0 ≤ c ∧ c ≤ 2) then -2001 else if ¬ ((0 ≤ r ∧ r ≤ 3199) ∧ (-30 ≤ g ∧ g ≤ 30)) then -2002 else zeAt (fun x => zer (vP μ c) x g) r
def S_trueOf (μ : fnMem) (c r g : Int) : Int := if ¬ (0 ≤ c ∧ c ≤ 2) then -2001 else if ¬ ((0 ≤ r ∧ r ≤ 3199) ∧ (-30 ≤ g ∧ g ≤ 30)) then -2002 else ztru (fun x => zer (vP μ c) x g) r
def zst (F : Int → Int) (t : Int) : Nat → Int
  | 0 => 0
  | n + 1 => if zabs (zway (ztru F ((n + 1 : Nat) : Int)) t) < zabs (zway (ztru F (zst F t n)) t) then ((n + 1 : Nat) : Int) else zst F t n
theorem zst_s (F : Int → Int) (t : Int) (n : Nat) : zst F t (n + 1) = if zabs (zway (ztru F ((n + 1 : Nat) : Int)) t) < zabs (zway (ztru F (zst F t n)) t) then ((n + 1 : Nat) : Int) else zst F t n := rfl
theorem zst_in (F : Int → Int) (t : Int) : ∀ n : Nat, 0 ≤ zst F t n ∧ zst F t n ≤ n
  | 0 => by simp [zst]
  | n + 1 => by
    have := zst_in F t n
    rw [zst_s]
    split <;> omega
def S_steer (μ : fnMem) (c t g : Int) : Int := if ¬ (0 ≤ c ∧ c ≤ 2) then -2001 else if ¬ ((0 ≤ t ∧ t ≤ 3199) ∧ (-30 ≤ g ∧ g ≤ 30)) then -2002 else zst (fun x => zer (vP μ c) x g) t 3199
def S_worst (μ : fnMem) (c : Int) : Int := if ¬ (0 ≤ c ∧ c ≤ 2) then -2001 else zabs (zer (vP μ c) (zwst (fun x => zer (vP μ c) x 0) 31) 0)
def S_worstAt (μ : fnMem) (c : Int) : Int := if ¬ (0 ≤ c ∧ c ≤ 2) then -2001 else zwst (fun x => zer (vP μ c) x 0) 31
def zctT (F : Int → Int) (x : Int) : Nat → Int := zsum (fun r => if ztru F r = 100 * x then 1 else 0)
def z2f (F : Int → Int) : Int := zsum (fun x => if 1 < zctT F x 3200 then 1 else 0) 32
def S_twofold (μ : fnMem) (c : Int) : Int := if ¬ (0 ≤ c ∧ c ≤ 2) then -2001 else z2f (fun x => zer (vP μ c) x 0)
def S_see (μ : fnMem) (c h e : Int) : Int := if ¬ ((0 ≤ c ∧ c ≤ 2) ∧ (0 ≤ h ∧ h ≤ 31)) then -2001 else if ¬ (-600 ≤ e ∧ e ≤ 600) then -2002 else μ 2 (32 * c + h)
def U_see (μ : fnMem) (c h e : Int) : fnMem := if ((0 ≤ c ∧ c ≤ 2) ∧ (0 ≤ h ∧ h ≤ 31)) ∧ (-600 ≤ e ∧ e ≤ 600) then fnUp μ 2 (32 * c + h) e else μ
def S_forget (μ : fnMem) (c h : Int) : Int := if ¬ ((0 ≤ c ∧ c ≤ 2) ∧ (0 ≤ h ∧ h ≤ 31)) then -2001 else if μ 2 (32 * c + h) = -2009 then -2003 else 1
def U_forget (μ : fnMem) (c h : Int) : fnMem := if ((0 ≤ c ∧ c ≤ 2) ∧ (0 ≤ h ∧ h ≤ 31)) ∧ μ 2 (32 * c + h) ≠ -2009 then fnUp μ 2 (32 * c + h) (-2009) else μ
def S_seen (μ : fnMem) (c : Int) : Int := if ¬ (0 ≤ c ∧ c ≤ 2) then -2001 else zcnt (vS μ c)
def S_filled (μ : fnMem) (c h : Int) : Int := if ¬ ((0 ≤ c ∧ c ≤ 2) ∧ (0 ≤ h ∧ h ≤ 31)) then -2001 else if zcnt (vS μ c) = 0 then -2003 else zfill (vS μ c) h
def S_gap (μ : fnMem) (c : Int) : Int := if ¬ (0 ≤ c ∧ c ≤ 2) then -2001 else if zcnt (vS μ c) = 0 then 32 else zlong (vS μ c) 64
def zmxr (F G : Int → Int) : Nat → Int
  | 0 => 0
  | n + 1 => if F n ≠ -2009 then zmax (zmxr F G n) (zabs (F n - G n)) else zmxr F G n
theorem zmxr_s (F G : Int → Int) (n : Nat) : zmxr F G (n + 1) = if F n ≠ -2009 then zmax (zmxr F G n) (zabs (F n - G n)) else zmxr F G n := rfl
def zaptP (μ : fnMem) (c : Int) : Int → Int := fun j => if j < 5 then zapt (vS μ c) j else μ 1 (6 * c + j)
def S_apart (μ : fnMem) (c : Int) : Int := if ¬ (0 ≤ c ∧ c ≤ 2) then -2001 else if zcnt (vS μ c) < 4 then -2003 else zmxr (vS μ c) (fun h => zer (zaptP μ c) h 0) 32
def U_apart (μ : fnMem) (c : Int) : fnMem := if (0 ≤ c ∧ c ≤ 2) ∧ ¬ (zcnt (vS μ c) < 4) then fnSt μ 1 (fun i => if 6 * c ≤ i ∧ i < 6 * c + 5 then zapt (vS μ c) (i - 6 * c) else μ 1 i) else μ
def S_residue (μ : fnMem) (c h : Int) : Int := if ¬ ((0 ≤ c ∧ c ≤ 2) ∧ (0 ≤ h ∧ h ≤ 31)) then -2001 else if μ 2 (32 * c + h) = -2009 then -2009 else μ 2 (32 * c + h) - zer (vP μ c) h 0
def S_bar (μ : fnMem) (k s : Int) : Int := if ¬ (0 ≤ k ∧ k ≤ 5) then -2001 else if ¬ (0 ≤ s ∧ s ≤ 30000) then -2002 else if μ 4 k ≠ -2009 then -2003 else μ 3 k
def U_bar (μ : fnMem) (k s : Int) : fnMem := if ((0 ≤ k ∧ k ≤ 5) ∧ (0 ≤ s ∧ s ≤ 30000)) ∧ μ 4 k = -2009 then fnUp μ 3 k s else μ
def S_ball (μ : fnMem) (k s : Int) : Int := if ¬ (0 ≤ k ∧ k ≤ 3) then -2001 else if ¬ (0 ≤ s ∧ s ≤ 20) then -2002 else if μ 0 8 = k then -2003 else μ 7 k
def U_ball (μ : fnMem) (k s : Int) : fnMem := if ((0 ≤ k ∧ k ≤ 3) ∧ (0 ≤ s ∧ s ≤ 20)) ∧ μ 0 8 ≠ k then fnUp μ 7 k s else μ
def S_layBar (μ : fnMem) (k a s : Int) : Int := if ¬ (0 ≤ k ∧ k ≤ 5) then -2001 else if ¬ ((0 ≤ a ∧ a ≤ 1) ∧ (2 ≤ s ∧ s ≤ 9)) then -2002 else if μ 3 k = 0 then -2003 else zpb (μ 3 k) s
def U_layBar (μ : fnMem) (k a s t : Int) : fnMem := if ((0 ≤ k ∧ k ≤ 5) ∧ ((0 ≤ a ∧ a ≤ 1) ∧ (2 ≤ s ∧ s ≤ 9))) ∧ μ 3 k ≠ 0 then fnUp (fnUp (fnUp μ 4 k a) 5 k s) 6 k t else μ
def S_layBall (μ : fnMem) (k s : Int) : Int := if ¬ (0 ≤ k ∧ k ≤ 3) then -2001 else if ¬ (2 ≤ s ∧ s ≤ 20) then -2002 else if μ 7 k = 0 ∨ s < μ 7 k then -2003 else zpl (μ 7 k) s
def U_layBall (μ : fnMem) (k s : Int) : fnMem := if ((0 ≤ k ∧ k ≤ 3) ∧ (2 ≤ s ∧ s ≤ 20)) ∧ ¬ (μ 7 k = 0 ∨ s < μ 7 k) then fnUp (fnUp μ 0 8 k) 0 9 s else μ
def zlaid (μ : fnMem) : Int := (if μ 0 8 ≠ -2009 then 1 else 0) + zsum (fun k => if μ 4 k ≠ -2009 then 1 else 0) 6
def U_lift (μ : fnMem) : fnMem := fnSt (fnUp μ 0 8 (-2009)) 4 (fun j => if 0 ≤ j ∧ j < 6 then -2009 else μ 4 j)
def zpx (μ : fnMem) (a k : Int) : Int := if μ 4 k = a then (if μ 6 k ≠ 0 then -(zpb (μ 3 k) (μ 5 k)) else zpb (μ 3 k) (μ 5 k)) else 0
def zlft (μ : fnMem) (j : Int) : Int := if j = 1 then μ 1 1 - zsum (zpx μ 0) 6 else if j = 2 then μ 1 2 - zsum (zpx μ 1) 6 else if j = 3 then μ 1 3 - (if μ 0 8 ≠ -2009 then zpl (μ 7 (μ 0 8)) (μ 0 9) else 0) else μ 1 j
def S_leftOf (μ : fnMem) (p : Int) : Int := if ¬ (0 ≤ p ∧ p ≤ 5) then -2001 else zlft μ p
def S_left (μ : fnMem) (h : Int) : Int := if ¬ (0 ≤ h ∧ h ≤ 31) then -2001 else zer (zlft μ) h 0
def zbst (μ : fnMem) : zB4 := zbest (μ 3) (μ 1 1) (μ 1 2)
def zbal (μ : fnMem) : Int := zbl (μ 7) (μ 1 3) 76
def zrst (μ : fnMem) : Int := (zbst μ).1 + zbyb (μ 7) (zbal μ) (μ 1 3)
def S_bestCode (μ : fnMem) (w : Int) : Int := if w = 0 then (zbst μ).2.2.1 else if w = 1 then (zbst μ).2.2.2 else if w = 2 then zbal μ else if w = 3 then (zbst μ).2.1 + zone (zbal μ) else -2002
def zsb (μ : fnMem) (d a : Int) : fnMem := if d = 0 then μ else fnUp (fnUp (fnUp μ 4 ((d - 1) / 16) a) 5 ((d - 1) / 16) (2 + (d - 1) % 16 / 2)) 6 ((d - 1) / 16) (if (d - 1) % 2 = 1 then 1 else 0)
def zsl (μ : fnMem) (d : Int) : fnMem := if d = 0 then μ else fnUp (fnUp μ 0 8 ((d - 1) / 19)) 0 9 (2 + (d - 1) % 19)
def U_layBest (μ : fnMem) : fnMem := zsl (zsb (zsb (U_lift μ) (zbst μ).2.2.1 0) (zbst μ).2.2.2 1) (zbal μ)
def S_place (p h z : Int) : Int := if ¬ (0 ≤ p ∧ p ≤ 7) then -2001 else if ¬ ((1 ≤ h ∧ h ≤ 999) ∧ (-999 ≤ z ∧ z ≤ 999)) then -2002 else 1
def U_place (μ : fnMem) (p h z : Int) : fnMem := if (0 ≤ p ∧ p ≤ 7) ∧ ((1 ≤ h ∧ h ≤ 999) ∧ (-999 ≤ z ∧ z ≤ 999)) then fnUp (fnUp μ 8 p h) 9 p z else μ
def S_note (c p : Int) : Int := if ¬ ((0 ≤ c ∧ c ≤ 2) ∧ (0 ≤ p ∧ p ≤ 7)) then -2001 else 1
def U_note (μ : fnMem) (c p : Int) : fnMem := if (0 ≤ c ∧ c ≤ 2) ∧ (0 ≤ p ∧ p ≤ 7) then fnUp (fnUp (fnUp μ 10 (8 * c + p) 1) 11 (8 * c + p) (μ 1 (6 * c + 1))) 12 (8 * c + p) (μ 1 (6 * c + 2)) else μ
def zfo (μ : fnMem) (N : Int → Int) (c x p q : Int) : Int := zfore (N (8 * c + p)) (N (8 * c + q)) (μ 8 p) (μ 8 q) (μ 8 x) (μ 9 x) (μ 9 p) (μ 9 q)
def S_foretold (μ : fnMem) (c x p q oc : Int) : Int := if ¬ ((0 ≤ c ∧ c ≤ 2) ∧ (0 ≤ x ∧ x ≤ 7) ∧ (0 ≤ p ∧ p ≤ 7) ∧ (0 ≤ q ∧ q ≤ 7)) then -2001 else if ¬ (μ 10 (8 * c + p) ≠ 0 ∧ μ 10 (8 * c + q) ≠ 0 ∧ μ 9 p ≠ μ 9 q) then -2003 else if oc ≠ 0 then zfo μ (μ 12) c x p q else zfo μ (μ 11) c x p q
def zfoP (μ : fnMem) (c x p q : Int) : Int → Int := fun j => if j = 1 then zfo μ (μ 11) c x p q else if j = 2 then zfo μ (μ 12) c x p q else μ 1 (6 * c + j)
def S_foretoldError (μ : fnMem) (c h x p q : Int) : Int := if ¬ ((0 ≤ c ∧ c ≤ 2) ∧ (0 ≤ h ∧ h ≤ 31) ∧ (0 ≤ x ∧ x ≤ 7) ∧ (0 ≤ p ∧ p ≤ 7) ∧ (0 ≤ q ∧ q ≤ 7)) then -2001 else if ¬ (μ 10 (8 * c + p) ≠ 0 ∧ μ 10 (8 * c + q) ≠ 0 ∧ μ 9 p ≠ μ 9 q) then -2003 else zer (zfoP μ c x p q) h 0
def S_event (μ : fnMem) (k d p v : Int) : Int := if ¬ ((0 ≤ k ∧ k ≤ 19) ∧ (0 ≤ p ∧ p ≤ 5)) then -2001 else if ¬ ((0 ≤ d ∧ d ≤ 999) ∧ (-300 ≤ v ∧ v ≤ 300)) then -2002 else μ 15 k
def U_event (μ : fnMem) (k d p v : Int) : fnMem := if ((0 ≤ k ∧ k ≤ 19) ∧ (0 ≤ p ∧ p ≤ 5)) ∧ ((0 ≤ d ∧ d ≤ 999) ∧ (-300 ≤ v ∧ v ≤ 300)) then fnUp (fnUp (fnUp μ 13 k d) 14 k p) 15 k v else μ
def zasof (μ : fnMem) (d j : Int) : Int := μ 1 j + zsum (zput (μ 13) (μ 14) (μ 15) d j) 20
def S_asOf (μ : fnMem) (p d : Int) : Int := if ¬ (0 ≤ p ∧ p ≤ 5) then -2001 else if ¬ (0 ≤ d ∧ d ≤ 999) then -2002 else zasof μ d p
def zlegOk (d r g m o s : Int) : Prop := (0 ≤ d ∧ d ≤ 999) ∧ (0 ≤ r ∧ r ≤ 3199) ∧ (-30 ≤ g ∧ g ≤ 30) ∧ (0 ≤ m ∧ m ≤ 300) ∧ (o = -2009 ∨ (0 ≤ o ∧ o ≤ 3199)) ∧ (s = -2009 ∨ (-600 ≤ s ∧ s ≤ 600))
def S_leg (μ : fnMem) (d r g m o s : Int) : Int := if ¬ ((0 ≤ d ∧ d ≤ 999) ∧ (0 ≤ r ∧ r ≤ 3199) ∧ (-30 ≤ g ∧ g ≤ 30) ∧ (0 ≤ m ∧ m ≤ 300) ∧ (o = -2009 ∨ (0 ≤ o ∧ o ≤ 3199)) ∧ (s = -2009 ∨ (-600 ≤ s ∧ s ≤ 600))) then -2002 else if 0 < μ 0 18 ∧ d < μ 16 (μ 0 18 - 1) then -2003 else if μ 0 18 = 40 then -2004 else μ 0 18
def U_leg (μ : fnMem) (d r g m o s : Int) : fnMem := if ((0 ≤ d ∧ d ≤ 999) ∧ (0 ≤ r ∧ r ≤ 3199) ∧ (-30 ≤ g ∧ g ≤ 30) ∧ (0 ≤ m ∧ m ≤ 300) ∧ (o = -2009 ∨ (0 ≤ o ∧ o ≤ 3199)) ∧ (s = -2009 ∨ (-600 ≤ s ∧ s ≤ 600))) ∧ ¬ (0 < μ 0 18 ∧ d < μ 16 (μ 0 18 - 1)) ∧ μ 0 18 ≠ 40 then fnUp (fnUp (fnUp (fnUp (fnUp (fnUp (fnUp μ 16 (μ 0 18) d) 17 (μ 0 18) r) 18 (μ 0 18) g) 19 (μ 0 18) m) 20 (μ 0 18) o) 21 (μ 0 18) s) 0 18 (μ 0 18 + 1) else μ
def zcrs (μ : fnMem) (l : Int) : Int := ztru (fun x => zer (zasof μ (μ 16 l)) x (μ 18 l)) (μ 17 l)
def zsrs (μ : fnMem) (l : Int) : Int := μ 21 l - zeAt (fun x => zer (zasof μ (μ 16 l)) x (μ 18 l)) (μ 17 l)
def zoth (μ : fnMem) (l : Int) : Int := ztru (fun x => zer (vP μ 1) x (μ 18 l)) (μ 20 l)
def zapw (μ : fnMem) (l : Int) : Int := zway (zcrs μ l) (zoth μ l)
def S_about (μ : fnMem) (l w : Int) : Int := if ¬ (0 ≤ l ∧ l ≤ μ 0 18 - 1) then -2001 else if w = 0 then μ 16 l else if w = 1 then μ 17 l else if w = 2 then μ 18 l else if w = 3 then μ 19 l else if w = 4 then μ 20 l else if w = 5 then μ 21 l else if w = 6 then zcrs μ l else if w = 7 then (if μ 21 l = -2009 then -2009 else zsrs μ l) else if w = 8 then (if μ 20 l = -2009 then -2009 else zapw μ l) else -2002
def U_home (μ : fnMem) : fnMem := fnUp μ 0 18 0
def S_worked (μ : fnMem) (n d s e : Int) : Int := if ¬ (0 ≤ n ∧ n ≤ μ 0 18) then -2001 else if ¬ ((0 ≤ d ∧ d ≤ 1000) ∧ (-1600 ≤ s ∧ s ≤ 1599)) then -2002 else zwk (zcrs μ) (μ 16) (μ 19) (if e ≠ 0 then zsine else zcosine) d s n.toNat
def znS (μ : fnMem) : Nat → Int := zsum (fun l => if μ 21 l ≠ -2009 then 1 else 0)
def zRS (μ : fnMem) : Nat → Int → Int
  | 0 => fun _ => 0
  | n + 1 => if μ 21 n ≠ -2009 then zset (zRS μ n) (znS μ n) (zsrs μ n) else zRS μ n
def zNL (μ : fnMem) : Nat → Int → Int
  | 0 => fun _ => 0
  | n + 1 => if μ 21 n ≠ -2009 then zset (zNL μ n) (znS μ n) n else zNL μ n
theorem zRS_s (μ : fnMem) (n : Nat) : zRS μ (n + 1) = if μ 21 n ≠ -2009 then zset (zRS μ n) (znS μ n) (zsrs μ n) else zRS μ n := rfl
theorem zNL_s (μ : fnMem) (n : Nat) : zNL μ (n + 1) = if μ 21 n ≠ -2009 then zset (zNL μ n) (znS μ n) n else zNL μ n := rfl
theorem znS_s (μ : fnMem) (n : Nat) : znS μ (n + 1) = znS μ n + if μ 21 n ≠ -2009 then 1 else 0 := rfl
def zLn (μ : fnMem) : Nat := (μ 0 18).toNat
def zm (μ : fnMem) : Nat := (znS μ (zLn μ)).toNat
def zspl (μ : fnMem) : Int × Int := zsp (zRS μ (zLn μ)) (zm μ) (zm μ)
def S_split (μ : fnMem) : Int := if zm μ = 0 then -2009 else (zspl μ).1
def S_splitCost (μ : fnMem) : Int := if zm μ = 0 then -2009 else (zspl μ).2
def S_jump (μ : fnMem) (w : Int) : Int := if ¬ (0 ≤ w ∧ w ≤ 2) then -2002 else if ¬ (0 < (zspl μ).1 ∧ (zspl μ).1 < zm μ) then -2009 else if w = 0 then zmid (zRS μ (zLn μ)) (zspl μ).1 (zm μ - (zspl μ).1.toNat) - zmid (zRS μ (zLn μ)) 0 (zspl μ).1.toNat else if w = 1 then μ 16 (zNL μ (zLn μ) ((zspl μ).1 - 1)) else μ 16 (zNL μ (zLn μ) (zspl μ).1)
def zfa (μ : fnMem) (lim : Int) : Nat → Int
  | 0 => -2009
  | n + 1 => if zfa μ lim n ≠ -2009 then zfa μ lim n else if μ 20 n ≠ -2009 ∧ lim < zabs (zapw μ n) then n else -2009
def S_firstApart (μ : fnMem) (lim : Int) : Int := if ¬ (0 ≤ lim ∧ lim ≤ 1600) then -2002 else zfa μ lim (zLn μ)
def znr (μ : fnMem) (l : Int) : Int := if zabs (zway ((μ 17 l + μ 21 l) % 3200) (zcrs μ l)) = zabs (zway ((μ 17 l + μ 21 l) % 3200) (zoth μ l)) then 2 else if zabs (zway ((μ 17 l + μ 21 l) % 3200) (zcrs μ l)) < zabs (zway ((μ 17 l + μ 21 l) % 3200) (zoth μ l)) then 0 else 1
def S_nearer (μ : fnMem) (l : Int) : Int := if ¬ (0 ≤ l ∧ l ≤ μ 0 18 - 1) then -2001 else if μ 21 l = -2009 ∨ μ 20 l = -2009 then -2003 else znr μ l
def zwQ (μ : fnMem) (N Ea : Int) : Int → Int → Int := zq (zcrs μ) (μ 16) (μ 19) (zLn μ) N Ea
noncomputable def zwr (μ : fnMem) (N Ea : Int) : Int × Int × Int := by
  classical
  exact if h : ∃ t : Int × Int × Int, zbI (zwQ μ N Ea) (μ 16) (zpr (zLn μ) 320) t.1 t.2.1 t.2.2 then Classical.choose h else (0, 0, 0)
theorem zwr_eq {μ : fnMem} {N Ea a b c : Int} (h : zbI (zwQ μ N Ea) (μ 16) (zpr (zLn μ) 320) a b c) : zwr μ N Ea = (a, b, c) := by
  have hx : ∃ t : Int × Int × Int, zbI (zwQ μ N Ea) (μ 16) (zpr (zLn μ) 320) t.1 t.2.1 t.2.2 := ⟨(a, b, c), h⟩
  unfold zwr
  rw [dif_pos hx]
  obtain ⟨h1, h2, h3⟩ := (Classical.choose_spec hx).uniq h
  rcases hy : Classical.choose hx with ⟨x, y, z⟩
  rw [hy] at h1 h2 h3
  simp only at h1 h2 h3
  rw [h1, h2, h3]
noncomputable def S_wreck (μ : fnMem) (N Ea w : Int) : Int := if ¬ ((-9999 ≤ N ∧ N ≤ 9999) ∧ (-9999 ≤ Ea ∧ Ea ≤ 9999) ∧ (0 ≤ w ∧ w ≤ 2)) then -2002 else if μ 0 18 = 0 then -2009 else if w = 0 then (zwr μ N Ea).2.1 else if w = 1 then (zwr μ N Ea).2.2 else (zwr μ N Ea).1
def S_count (μ : fnMem) (w : Int) : Int := if w = 0 then μ 0 18 else if w = 1 then zlaid μ else if w = 2 then zsum (fun k => if μ 3 k ≠ 0 then 1 else 0) 6 + zsum (fun k => if μ 7 k ≠ 0 then 1 else 0) 4 else if w = 3 then zsum (fun k => if μ 15 k ≠ 0 then 1 else 0) 20 else if w = 4 then zsum (fun k => if μ 10 k ≠ 0 then 1 else 0) 24 else if w = 5 then zsum (μ 19) (zLn μ) else -2002
