/-! decode rows in a form that names the next place: fnD (straight), fnIf, fnIc, fnGo (branches, by their targets) -/
abbrev fnD (cc : ByteArray) (pc : Nat) (i : Instr) (n nx : Nat) : Prop := decode cc pc = .ok (i, n) ∧ pc + n = nx
abbrev fnIf (cc : ByteArray) (pc : Nat) (op : ClassFile.Cond) (tgt nx : Nat) : Prop := decode cc pc = .ok (.ifCond op ((tgt : Int) - (pc : Int)), 3) ∧ pc + 3 = nx
abbrev fnIc (cc : ByteArray) (pc : Nat) (op : ClassFile.Cond) (tgt nx : Nat) : Prop := decode cc pc = .ok (.if_icmp op ((tgt : Int) - (pc : Int)), 3) ∧ pc + 3 = nx
abbrev fnGo (cc : ByteArray) (pc tgt : Nat) : Prop := decode cc pc = .ok (.goto ((tgt : Int) - (pc : Int)), 3)
