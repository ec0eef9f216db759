theorem lw_case_15 {E : fnE} {L : Nat} {xs : Nat → Int32} {V : fnV} (h : lwX E L xs V) {σ : fnMem} (hC : zCR σ (mv σ)) (hW : zWF (mv σ)) {i : Int} (i0 : 0 ≤ i) (i1 : i + 7 ≤ L) (kk : ∀ σ2 : fnMem, zCR σ2 (mv σ2) → zWF (mv σ2) → V 1769 [.ref 101, .ref 0, .ref 51, zI i] [] σ2) : V 759 [.ref 101, .ref 0, .ref 51, zI i] [] σ := by
  obtain ⟨hV, hL, hI, hA, hR⟩ := h
  refine fn_aload_1 hV dL_law_759 ?_
  refine fn_aload_0 hV dL_law_760 ?_
  refine fn_iload_3 hV dL_law_761 ?_
  refine fn_iconst hV dL_law_762 ?_
  refine fn_iadd hV dL_law_763 ?_
  refine hI _ _ _ _ _ _ dL_law_764 (by omega) (by omega) ?_
  refine fn_cV1I hV (c_X10_gap E _ (mv σ) hC hW _ (lw_R _)) mv_X10_gap lk_L_77 dL_law_765 sh_0 rfl ⟨rfl, rfl⟩ rfl (fun z1 σ1 hp1 => ?_)
  obtain ⟨hz1, hC1, hf1⟩ := hp1
  have e1 : mv σ1 = mv σ := funext fun k => hf1 (51 + k) (by omega)
  refine fn_aload_2 hV dL_law_768 ?_
  refine fn_aload_0 hV dL_law_769 ?_
  refine fn_iload_3 hV dL_law_770 ?_
  refine fn_iconst hV dL_law_771 ?_
  refine fn_iadd hV dL_law_772 ?_
  refine hI _ _ _ _ _ _ dL_law_773 (by omega) (by omega) ?_
  refine fn_cV1I hV (c_X11_gap E σ1 (by rw [e1]; exact hW) _ (lw_R _)) mv_X11_gap lk_L_80 dL_law_774 sh_51 rfl ⟨rfl, rfl⟩ rfl (fun z2 σ2 hp2 => ?_)
  rw [e1] at hp2
  obtain ⟨hz2, hs2, hf2⟩ := hp2
  refine fn_icmp_eqT hV dL_law_777 (by rw [hz1, hz2]) ?_
  exact kk σ2 (zCR_sc hC1 hf2 hs2) (zWF_sc hW hs2)
theorem lw_case_16 {E : fnE} {L : Nat} {xs : Nat → Int32} {V : fnV} (h : lwX E L xs V) {σ : fnMem} (hC : zCR σ (mv σ)) (hW : zWF (mv σ)) {i : Int} (i0 : 0 ≤ i) (i1 : i + 7 ≤ L) (kk : ∀ σ2 : fnMem, zCR σ2 (mv σ2) → zWF (mv σ2) → V 1769 [.ref 101, .ref 0, .ref 51, zI i] [] σ2) : V 782 [.ref 101, .ref 0, .ref 51, zI i] [] σ := by
  obtain ⟨hV, hL, hI, hA, hR⟩ := h
  refine fn_aload_1 hV dL_law_782 ?_
  refine fn_aload_0 hV dL_law_783 ?_
  refine fn_iload_3 hV dL_law_784 ?_
  refine fn_iconst hV dL_law_785 ?_
  refine fn_iadd hV dL_law_786 ?_
  refine hI _ _ _ _ _ _ dL_law_787 (by omega) (by omega) ?_
  refine fn_cV1I hV (c_X10_apart E _ (mv σ) hC hW _ (lw_R _)) mv_X10_apart lk_L_81 dL_law_788 sh_0 rfl ⟨rfl, rfl⟩ rfl (fun z1 σ1 hp1 => ?_)
  obtain ⟨hz1, hC1, hf1⟩ := hp1
  have e1 : mv σ1 = mv σ := funext fun k => hf1 (51 + k) (by omega)
  refine fn_aload_2 hV dL_law_791 ?_
  refine fn_aload_0 hV dL_law_792 ?_
  refine fn_iload_3 hV dL_law_793 ?_
  refine fn_iconst hV dL_law_794 ?_
  refine fn_iadd hV dL_law_795 ?_
  refine hI _ _ _ _ _ _ dL_law_796 (by omega) (by omega) ?_
  refine fn_cV1I hV (c_X11_apart E σ1 (by rw [e1]; exact hW) _ (lw_R _)) mv_X11_apart lk_L_84 dL_law_797 sh_51 rfl ⟨rfl, rfl⟩ rfl (fun z2 σ2 hp2 => ?_)
  rw [e1] at hp2
  obtain ⟨hz2, hs2, hf2⟩ := hp2
  refine fn_icmp_eqT hV dL_law_800 (by rw [hz1, hz2]) ?_
  exact kk σ2 (zCR_sc hC1 hf2 hs2) (zWF_sc (W_apart hW _) hs2)
theorem lw_case_17 {E : fnE} {L : Nat} {xs : Nat → Int32} {V : fnV} (h : lwX E L xs V) {σ : fnMem} (hC : zCR σ (mv σ)) (hW : zWF (mv σ)) {i : Int} (i0 : 0 ≤ i) (i1 : i + 7 ≤ L) (kk : ∀ σ2 : fnMem, zCR σ2 (mv σ2) → zWF (mv σ2) → V 1769 [.ref 101, .ref 0, .ref 51, zI i] [] σ2) : V 805 [.ref 101, .ref 0, .ref 51, zI i] [] σ := by
  obtain ⟨hV, hL, hI, hA, hR⟩ := h
  refine fn_aload_1 hV dL_law_805 ?_
  refine fn_aload_0 hV dL_law_806 ?_
  refine fn_iload_3 hV dL_law_807 ?_
  refine fn_iconst hV dL_law_808 ?_
  refine fn_iadd hV dL_law_809 ?_
  refine hI _ _ _ _ _ _ dL_law_810 (by omega) (by omega) ?_
  refine fn_aload_0 hV dL_law_811 ?_
  refine fn_iload_3 hV dL_law_812 ?_
  refine fn_iconst hV dL_law_813 ?_
  refine fn_iadd hV dL_law_814 ?_
  refine hI _ _ _ _ _ _ dL_law_815 (by omega) (by omega) ?_
  refine fn_cV2I hV (c_X10_residue E _ (mv σ) hC hW _ (lw_R _) _ (lw_R _)) mv_X10_residue lk_L_85 dL_law_816 sh_0 rfl ⟨rfl, rfl⟩ rfl (fun z1 σ1 hp1 => ?_)
  obtain ⟨hz1, hC1, hf1⟩ := hp1
  have e1 : mv σ1 = mv σ := funext fun k => hf1 (51 + k) (by omega)
  refine fn_aload_2 hV dL_law_819 ?_
  refine fn_aload_0 hV dL_law_820 ?_
  refine fn_iload_3 hV dL_law_821 ?_
  refine fn_iconst hV dL_law_822 ?_
  refine fn_iadd hV dL_law_823 ?_
  refine hI _ _ _ _ _ _ dL_law_824 (by omega) (by omega) ?_
  refine fn_aload_0 hV dL_law_825 ?_
  refine fn_iload_3 hV dL_law_826 ?_
  refine fn_iconst hV dL_law_827 ?_
  refine fn_iadd hV dL_law_828 ?_
  refine hI _ _ _ _ _ _ dL_law_829 (by omega) (by omega) ?_
  refine fn_cV2I hV (c_X11_residue E σ1 (by rw [e1]; exact hW) _ (lw_R _) _ (lw_R _)) mv_X11_residue lk_L_88 dL_law_830 sh_51 rfl ⟨rfl, rfl⟩ rfl (fun z2 σ2 hp2 => ?_)
  rw [e1] at hp2
  obtain ⟨hz2, hs2, hf2⟩ := hp2
  refine fn_icmp_eqT hV dL_law_833 (by rw [hz1, hz2]) ?_
  exact kk σ2 (zCR_sc hC1 hf2 hs2) (zWF_sc hW hs2)
theorem lw_case_18 {E : fnE} {L : Nat} {xs : Nat → Int32} {V : fnV} (h : lwX E L xs V) {σ : fnMem} (hC : zCR σ (mv σ)) (hW : zWF (mv σ)) {i : Int} (i0 : 0 ≤ i) (i1 : i + 7 ≤ L) (kk : ∀ σ2 : fnMem, zCR σ2 (mv σ2) → zWF (mv σ2) → V 1769 [.ref 101, .ref 0, .ref 51, zI i] [] σ2) : V 838 [.ref 101, .ref 0, .ref 51, zI i] [] σ := by
  obtain ⟨hV, hL, hI, hA, hR⟩ := h
  refine fn_aload_1 hV dL_law_838 ?_
  refine fn_aload_0 hV dL_law_839 ?_
  refine fn_iload_3 hV dL_law_840 ?_
  refine fn_iconst hV dL_law_841 ?_
  refine fn_iadd hV dL_law_842 ?_
  refine hI _ _ _ _ _ _ dL_law_843 (by omega) (by omega) ?_
  refine fn_aload_0 hV dL_law_844 ?_
  refine fn_iload_3 hV dL_law_845 ?_
  refine fn_iconst hV dL_law_846 ?_
  refine fn_iadd hV dL_law_847 ?_
  refine hI _ _ _ _ _ _ dL_law_848 (by omega) (by omega) ?_
  refine fn_cV2I hV (c_X10_bar E _ (mv σ) hC hW _ (lw_R _) _ (lw_R _)) mv_X10_bar lk_L_89 dL_law_849 sh_0 rfl ⟨rfl, rfl⟩ rfl (fun z1 σ1 hp1 => ?_)
  obtain ⟨hz1, hC1, hf1⟩ := hp1
  have e1 : mv σ1 = mv σ := funext fun k => hf1 (51 + k) (by omega)
  refine fn_aload_2 hV dL_law_852 ?_
  refine fn_aload_0 hV dL_law_853 ?_
  refine fn_iload_3 hV dL_law_854 ?_
  refine fn_iconst hV dL_law_855 ?_
  refine fn_iadd hV dL_law_856 ?_
  refine hI _ _ _ _ _ _ dL_law_857 (by omega) (by omega) ?_
  refine fn_aload_0 hV dL_law_858 ?_
  refine fn_iload_3 hV dL_law_859 ?_
  refine fn_iconst hV dL_law_860 ?_
  refine fn_iadd hV dL_law_861 ?_
  refine hI _ _ _ _ _ _ dL_law_862 (by omega) (by omega) ?_
  refine fn_cV2I hV (c_X11_bar E σ1 (by rw [e1]; exact hW) _ (lw_R _) _ (lw_R _)) mv_X11_bar lk_L_92 dL_law_863 sh_51 rfl ⟨rfl, rfl⟩ rfl (fun z2 σ2 hp2 => ?_)
  rw [e1] at hp2
  obtain ⟨hz2, hs2, hf2⟩ := hp2
  refine fn_icmp_eqT hV dL_law_866 (by rw [hz1, hz2]) ?_
  exact kk σ2 (zCR_sc hC1 hf2 hs2) (zWF_sc (W_bar hW _ _) hs2)
theorem lw_case_19 {E : fnE} {L : Nat} {xs : Nat → Int32} {V : fnV} (h : lwX E L xs V) {σ : fnMem} (hC : zCR σ (mv σ)) (hW : zWF (mv σ)) {i : Int} (i0 : 0 ≤ i) (i1 : i + 7 ≤ L) (kk : ∀ σ2 : fnMem, zCR σ2 (mv σ2) → zWF (mv σ2) → V 1769 [.ref 101, .ref 0, .ref 51, zI i] [] σ2) : V 871 [.ref 101, .ref 0, .ref 51, zI i] [] σ := by
  obtain ⟨hV, hL, hI, hA, hR⟩ := h
  refine fn_aload_1 hV dL_law_871 ?_
  refine fn_aload_0 hV dL_law_872 ?_
  refine fn_iload_3 hV dL_law_873 ?_
  refine fn_iconst hV dL_law_874 ?_
  refine fn_iadd hV dL_law_875 ?_
  refine hI _ _ _ _ _ _ dL_law_876 (by omega) (by omega) ?_
  refine fn_aload_0 hV dL_law_877 ?_
  refine fn_iload_3 hV dL_law_878 ?_
  refine fn_iconst hV dL_law_879 ?_
  refine fn_iadd hV dL_law_880 ?_
  refine hI _ _ _ _ _ _ dL_law_881 (by omega) (by omega) ?_
  refine fn_cV2I hV (c_X10_ball E _ (mv σ) hC hW _ (lw_R _) _ (lw_R _)) mv_X10_ball lk_L_93 dL_law_882 sh_0 rfl ⟨rfl, rfl⟩ rfl (fun z1 σ1 hp1 => ?_)
  obtain ⟨hz1, hC1, hf1⟩ := hp1
  have e1 : mv σ1 = mv σ := funext fun k => hf1 (51 + k) (by omega)
  refine fn_aload_2 hV dL_law_885 ?_
  refine fn_aload_0 hV dL_law_886 ?_
  refine fn_iload_3 hV dL_law_887 ?_
  refine fn_iconst hV dL_law_888 ?_
  refine fn_iadd hV dL_law_889 ?_
  refine hI _ _ _ _ _ _ dL_law_890 (by omega) (by omega) ?_
  refine fn_aload_0 hV dL_law_891 ?_
  refine fn_iload_3 hV dL_law_892 ?_
  refine fn_iconst hV dL_law_893 ?_
  refine fn_iadd hV dL_law_894 ?_
  refine hI _ _ _ _ _ _ dL_law_895 (by omega) (by omega) ?_
  refine fn_cV2I hV (c_X11_ball E σ1 (by rw [e1]; exact hW) _ (lw_R _) _ (lw_R _)) mv_X11_ball lk_L_96 dL_law_896 sh_51 rfl ⟨rfl, rfl⟩ rfl (fun z2 σ2 hp2 => ?_)
  rw [e1] at hp2
  obtain ⟨hz2, hs2, hf2⟩ := hp2
  refine fn_icmp_eqT hV dL_law_899 (by rw [hz1, hz2]) ?_
  exact kk σ2 (zCR_sc hC1 hf2 hs2) (zWF_sc (W_ball hW _ _) hs2)
theorem lw_case_20 {E : fnE} {L : Nat} {xs : Nat → Int32} {V : fnV} (h : lwX E L xs V) {σ : fnMem} (hC : zCR σ (mv σ)) (hW : zWF (mv σ)) {i : Int} (i0 : 0 ≤ i) (i1 : i + 7 ≤ L) (kk : ∀ σ2 : fnMem, zCR σ2 (mv σ2) → zWF (mv σ2) → V 1769 [.ref 101, .ref 0, .ref 51, zI i] [] σ2) : V 904 [.ref 101, .ref 0, .ref 51, zI i] [] σ := by
  obtain ⟨hV, hL, hI, hA, hR⟩ := h
  refine fn_aload_1 hV dL_law_904 ?_
  refine fn_aload_0 hV dL_law_905 ?_
  refine fn_iload_3 hV dL_law_906 ?_
  refine fn_iconst hV dL_law_907 ?_
  refine fn_iadd hV dL_law_908 ?_
  refine hI _ _ _ _ _ _ dL_law_909 (by omega) (by omega) ?_
  refine fn_aload_0 hV dL_law_910 ?_
  refine fn_iload_3 hV dL_law_911 ?_
  refine fn_iconst hV dL_law_912 ?_
  refine fn_iadd hV dL_law_913 ?_
  refine hI _ _ _ _ _ _ dL_law_914 (by omega) (by omega) ?_
  refine fn_aload_0 hV dL_law_915 ?_
  refine fn_iload_3 hV dL_law_916 ?_
  refine fn_iconst hV dL_law_917 ?_
  refine fn_iadd hV dL_law_918 ?_
  refine hI _ _ _ _ _ _ dL_law_919 (by omega) (by omega) ?_
  refine fn_aload_0 hV dL_law_920 ?_
  refine fn_iload_3 hV dL_law_921 ?_
  refine fn_iconst hV dL_law_922 ?_
  refine fn_iadd hV dL_law_923 ?_
  refine hI _ _ _ _ _ _ dL_law_924 (by omega) (by omega) ?_
  refine fn_if_eq hV (lw_R _) dL_law_925 (fun qb4 => ?_) (fun qb4 => ?_)
  · skip
    refine fn_iconst hV dL_law_932 ?_
    refine fn_cV4I hV (c_X10_layBar E _ (mv σ) hC hW _ (lw_R _) _ (lw_R _) _ (lw_R _) _ (Or.inl rfl)) mv_X10_layBar lk_L_97 dL_law_933 sh_0 rfl ⟨rfl, rfl⟩ rfl (fun z1 σ1 hp1 => ?_)
    obtain ⟨hz1, hC1, hf1⟩ := hp1
    have e1 : mv σ1 = mv σ := funext fun k => hf1 (51 + k) (by omega)
    refine fn_aload_2 hV dL_law_936 ?_
    refine fn_aload_0 hV dL_law_937 ?_
    refine fn_iload_3 hV dL_law_938 ?_
    refine fn_iconst hV dL_law_939 ?_
    refine fn_iadd hV dL_law_940 ?_
    refine hI _ _ _ _ _ _ dL_law_941 (by omega) (by omega) ?_
    refine fn_aload_0 hV dL_law_942 ?_
    refine fn_iload_3 hV dL_law_943 ?_
    refine fn_iconst hV dL_law_944 ?_
    refine fn_iadd hV dL_law_945 ?_
    refine hI _ _ _ _ _ _ dL_law_946 (by omega) (by omega) ?_
    refine fn_aload_0 hV dL_law_947 ?_
    refine fn_iload_3 hV dL_law_948 ?_
    refine fn_iconst hV dL_law_949 ?_
    refine fn_iadd hV dL_law_950 ?_
    refine hI _ _ _ _ _ _ dL_law_951 (by omega) (by omega) ?_
    refine fn_aload_0 hV dL_law_952 ?_
    refine fn_iload_3 hV dL_law_953 ?_
    refine fn_iconst hV dL_law_954 ?_
    refine fn_iadd hV dL_law_955 ?_
    refine hI _ _ _ _ _ _ dL_law_956 (by omega) (by omega) ?_
    refine fn_if_eq hV (lw_R _) dL_law_957 (fun _ => ?_) (fun q => absurd qb4 q)
    refine fn_iconst hV dL_law_964 ?_
    refine fn_cV4I hV (c_X11_layBar E σ1 (by rw [e1]; exact hW) _ (lw_R _) _ (lw_R _) _ (lw_R _) _ (Or.inl rfl)) mv_X11_layBar lk_L_101 dL_law_965 sh_51 rfl ⟨rfl, rfl⟩ rfl (fun z2 σ2 hp2 => ?_)
    rw [e1] at hp2
    obtain ⟨hz2, hs2, hf2⟩ := hp2
    refine fn_icmp_eqT hV dL_law_968 (by rw [hz1, hz2]) ?_
    exact kk σ2 (zCR_sc hC1 hf2 hs2) (zWF_sc (W_layBar hW _ _ _ _ (Or.inl rfl)) hs2)
  · skip
    refine fn_iconst hV dL_law_928 ?_
    refine fn_goto hV dL_law_929 ?_
    refine fn_cV4I hV (c_X10_layBar E _ (mv σ) hC hW _ (lw_R _) _ (lw_R _) _ (lw_R _) _ (Or.inr rfl)) mv_X10_layBar lk_L_97 dL_law_933 sh_0 rfl ⟨rfl, rfl⟩ rfl (fun z1 σ1 hp1 => ?_)
    obtain ⟨hz1, hC1, hf1⟩ := hp1
    have e1 : mv σ1 = mv σ := funext fun k => hf1 (51 + k) (by omega)
    refine fn_aload_2 hV dL_law_936 ?_
    refine fn_aload_0 hV dL_law_937 ?_
    refine fn_iload_3 hV dL_law_938 ?_
    refine fn_iconst hV dL_law_939 ?_
    refine fn_iadd hV dL_law_940 ?_
    refine hI _ _ _ _ _ _ dL_law_941 (by omega) (by omega) ?_
    refine fn_aload_0 hV dL_law_942 ?_
    refine fn_iload_3 hV dL_law_943 ?_
    refine fn_iconst hV dL_law_944 ?_
    refine fn_iadd hV dL_law_945 ?_
    refine hI _ _ _ _ _ _ dL_law_946 (by omega) (by omega) ?_
    refine fn_aload_0 hV dL_law_947 ?_
    refine fn_iload_3 hV dL_law_948 ?_
    refine fn_iconst hV dL_law_949 ?_
    refine fn_iadd hV dL_law_950 ?_
    refine hI _ _ _ _ _ _ dL_law_951 (by omega) (by omega) ?_
    refine fn_aload_0 hV dL_law_952 ?_
    refine fn_iload_3 hV dL_law_953 ?_
    refine fn_iconst hV dL_law_954 ?_
    refine fn_iadd hV dL_law_955 ?_
    refine hI _ _ _ _ _ _ dL_law_956 (by omega) (by omega) ?_
    refine fn_if_eq hV (lw_R _) dL_law_957 (fun q => absurd q qb4) (fun _ => ?_)
    refine fn_iconst hV dL_law_960 ?_
    refine fn_goto hV dL_law_961 ?_
    refine fn_cV4I hV (c_X11_layBar E σ1 (by rw [e1]; exact hW) _ (lw_R _) _ (lw_R _) _ (lw_R _) _ (Or.inr rfl)) mv_X11_layBar lk_L_101 dL_law_965 sh_51 rfl ⟨rfl, rfl⟩ rfl (fun z2 σ2 hp2 => ?_)
    rw [e1] at hp2
    obtain ⟨hz2, hs2, hf2⟩ := hp2
    refine fn_icmp_eqT hV dL_law_968 (by rw [hz1, hz2]) ?_
    exact kk σ2 (zCR_sc hC1 hf2 hs2) (zWF_sc (W_layBar hW _ _ _ _ (Or.inr rfl)) hs2)
theorem lw_case_21 {E : fnE} {L : Nat} {xs : Nat → Int32} {V : fnV} (h : lwX E L xs V) {σ : fnMem} (hC : zCR σ (mv σ)) (hW : zWF (mv σ)) {i : Int} (i0 : 0 ≤ i) (i1 : i + 7 ≤ L) (kk : ∀ σ2 : fnMem, zCR σ2 (mv σ2) → zWF (mv σ2) → V 1769 [.ref 101, .ref 0, .ref 51, zI i] [] σ2) : V 973 [.ref 101, .ref 0, .ref 51, zI i] [] σ := by
  obtain ⟨hV, hL, hI, hA, hR⟩ := h
  refine fn_aload_1 hV dL_law_973 ?_
  refine fn_aload_0 hV dL_law_974 ?_
  refine fn_iload_3 hV dL_law_975 ?_
  refine fn_iconst hV dL_law_976 ?_
  refine fn_iadd hV dL_law_977 ?_
  refine hI _ _ _ _ _ _ dL_law_978 (by omega) (by omega) ?_
  refine fn_aload_0 hV dL_law_979 ?_
  refine fn_iload_3 hV dL_law_980 ?_
  refine fn_iconst hV dL_law_981 ?_
  refine fn_iadd hV dL_law_982 ?_
  refine hI _ _ _ _ _ _ dL_law_983 (by omega) (by omega) ?_
  refine fn_cV2I hV (c_X10_layBall E _ (mv σ) hC hW _ (lw_R _) _ (lw_R _)) mv_X10_layBall lk_L_102 dL_law_984 sh_0 rfl ⟨rfl, rfl⟩ rfl (fun z1 σ1 hp1 => ?_)
  obtain ⟨hz1, hC1, hf1⟩ := hp1
  have e1 : mv σ1 = mv σ := funext fun k => hf1 (51 + k) (by omega)
  refine fn_aload_2 hV dL_law_987 ?_
  refine fn_aload_0 hV dL_law_988 ?_
  refine fn_iload_3 hV dL_law_989 ?_
  refine fn_iconst hV dL_law_990 ?_
  refine fn_iadd hV dL_law_991 ?_
  refine hI _ _ _ _ _ _ dL_law_992 (by omega) (by omega) ?_
  refine fn_aload_0 hV dL_law_993 ?_
  refine fn_iload_3 hV dL_law_994 ?_
  refine fn_iconst hV dL_law_995 ?_
  refine fn_iadd hV dL_law_996 ?_
  refine hI _ _ _ _ _ _ dL_law_997 (by omega) (by omega) ?_
  refine fn_cV2I hV (c_X11_layBall E σ1 (by rw [e1]; exact hW) _ (lw_R _) _ (lw_R _)) mv_X11_layBall lk_L_105 dL_law_998 sh_51 rfl ⟨rfl, rfl⟩ rfl (fun z2 σ2 hp2 => ?_)
  rw [e1] at hp2
  obtain ⟨hz2, hs2, hf2⟩ := hp2
  refine fn_icmp_eqT hV dL_law_1001 (by rw [hz1, hz2]) ?_
  exact kk σ2 (zCR_sc hC1 hf2 hs2) (zWF_sc (W_layBall hW _ _) hs2)
theorem lw_case_22 {E : fnE} {L : Nat} {xs : Nat → Int32} {V : fnV} (h : lwX E L xs V) {σ : fnMem} (hC : zCR σ (mv σ)) (hW : zWF (mv σ)) {i : Int} (i0 : 0 ≤ i) (i1 : i + 7 ≤ L) (kk : ∀ σ2 : fnMem, zCR σ2 (mv σ2) → zWF (mv σ2) → V 1769 [.ref 101, .ref 0, .ref 51, zI i] [] σ2) : V 1006 [.ref 101, .ref 0, .ref 51, zI i] [] σ := by
  obtain ⟨hV, hL, hI, hA, hR⟩ := h
  refine fn_aload_1 hV dL_law_1006 ?_
  refine fn_cV0I hV (c_X10_takeUp E _ (mv σ) hC hW) mv_X10_takeUp lk_L_106 dL_law_1007 sh_0 rfl ⟨rfl, rfl⟩ rfl (fun z1 σ1 hp1 => ?_)
  obtain ⟨hz1, hC1, hf1⟩ := hp1
  have e1 : mv σ1 = mv σ := funext fun k => hf1 (51 + k) (by omega)
  refine fn_aload_2 hV dL_law_1010 ?_
  refine fn_cV0I hV (c_X11_takeUp E σ1 (by rw [e1]; exact hW)) mv_X11_takeUp lk_L_110 dL_law_1011 sh_51 rfl ⟨rfl, rfl⟩ rfl (fun z2 σ2 hp2 => ?_)
  rw [e1] at hp2
  obtain ⟨hz2, hs2, hf2⟩ := hp2
  refine fn_icmp_eqT hV dL_law_1014 (by rw [hz1, hz2]) ?_
  exact kk σ2 (zCR_sc hC1 hf2 hs2) (zWF_sc (W_lift hW) hs2)
theorem lw_case_23 {E : fnE} {L : Nat} {xs : Nat → Int32} {V : fnV} (h : lwX E L xs V) {σ : fnMem} (hC : zCR σ (mv σ)) (hW : zWF (mv σ)) {i : Int} (i0 : 0 ≤ i) (i1 : i + 7 ≤ L) (kk : ∀ σ2 : fnMem, zCR σ2 (mv σ2) → zWF (mv σ2) → V 1769 [.ref 101, .ref 0, .ref 51, zI i] [] σ2) : V 1019 [.ref 101, .ref 0, .ref 51, zI i] [] σ := by
  obtain ⟨hV, hL, hI, hA, hR⟩ := h
  refine fn_aload_1 hV dL_law_1019 ?_
  refine fn_aload_0 hV dL_law_1020 ?_
  refine fn_iload_3 hV dL_law_1021 ?_
  refine fn_iconst hV dL_law_1022 ?_
  refine fn_iadd hV dL_law_1023 ?_
  refine hI _ _ _ _ _ _ dL_law_1024 (by omega) (by omega) ?_
  refine fn_cV1I hV (c_X10_leftOf E _ (mv σ) hC hW _ (lw_R _)) mv_X10_leftOf lk_L_111 dL_law_1025 sh_0 rfl ⟨rfl, rfl⟩ rfl (fun z1 σ1 hp1 => ?_)
  obtain ⟨hz1, hC1, hf1⟩ := hp1
  have e1 : mv σ1 = mv σ := funext fun k => hf1 (51 + k) (by omega)
  refine fn_aload_2 hV dL_law_1028 ?_
  refine fn_aload_0 hV dL_law_1029 ?_
  refine fn_iload_3 hV dL_law_1030 ?_
  refine fn_iconst hV dL_law_1031 ?_
  refine fn_iadd hV dL_law_1032 ?_
  refine hI _ _ _ _ _ _ dL_law_1033 (by omega) (by omega) ?_
  refine fn_cV1I hV (c_X11_leftOf E σ1 (by rw [e1]; exact hW) _ (lw_R _)) mv_X11_leftOf lk_L_114 dL_law_1034 sh_51 rfl ⟨rfl, rfl⟩ rfl (fun z2 σ2 hp2 => ?_)
  rw [e1] at hp2
  obtain ⟨hz2, hs2, hf2⟩ := hp2
  refine fn_icmp_eqT hV dL_law_1037 (by rw [hz1, hz2]) ?_
  exact kk σ2 (zCR_sc hC1 hf2 hs2) (zWF_sc hW hs2)
theorem lw_case_24 {E : fnE} {L : Nat} {xs : Nat → Int32} {V : fnV} (h : lwX E L xs V) {σ : fnMem} (hC : zCR σ (mv σ)) (hW : zWF (mv σ)) {i : Int} (i0 : 0 ≤ i) (i1 : i + 7 ≤ L) (kk : ∀ σ2 : fnMem, zCR σ2 (mv σ2) → zWF (mv σ2) → V 1769 [.ref 101, .ref 0, .ref 51, zI i] [] σ2) : V 1042 [.ref 101, .ref 0, .ref 51, zI i] [] σ := by
  obtain ⟨hV, hL, hI, hA, hR⟩ := h
  refine fn_aload_1 hV dL_law_1042 ?_
  refine fn_aload_0 hV dL_law_1043 ?_
  refine fn_iload_3 hV dL_law_1044 ?_
  refine fn_iconst hV dL_law_1045 ?_
  refine fn_iadd hV dL_law_1046 ?_
  refine hI _ _ _ _ _ _ dL_law_1047 (by omega) (by omega) ?_
  refine fn_cV1I hV (c_X10_left E _ (mv σ) hC hW _ (lw_R _)) mv_X10_left lk_L_115 dL_law_1048 sh_0 rfl ⟨rfl, rfl⟩ rfl (fun z1 σ1 hp1 => ?_)
  obtain ⟨hz1, hC1, hf1⟩ := hp1
  have e1 : mv σ1 = mv σ := funext fun k => hf1 (51 + k) (by omega)
  refine fn_aload_2 hV dL_law_1051 ?_
  refine fn_aload_0 hV dL_law_1052 ?_
  refine fn_iload_3 hV dL_law_1053 ?_
  refine fn_iconst hV dL_law_1054 ?_
  refine fn_iadd hV dL_law_1055 ?_
  refine hI _ _ _ _ _ _ dL_law_1056 (by omega) (by omega) ?_
  refine fn_cV1I hV (c_X11_left E σ1 (by rw [e1]; exact hW) _ (lw_R _)) mv_X11_left lk_L_118 dL_law_1057 sh_51 rfl ⟨rfl, rfl⟩ rfl (fun z2 σ2 hp2 => ?_)
  rw [e1] at hp2
  obtain ⟨hz2, hs2, hf2⟩ := hp2
  refine fn_icmp_eqT hV dL_law_1060 (by rw [hz1, hz2]) ?_
  exact kk σ2 (zCR_sc hC1 hf2 hs2) (zWF_sc hW hs2)
theorem lw_case_25 {E : fnE} {L : Nat} {xs : Nat → Int32} {V : fnV} (h : lwX E L xs V) {σ : fnMem} (hC : zCR σ (mv σ)) (hW : zWF (mv σ)) {i : Int} (i0 : 0 ≤ i) (i1 : i + 7 ≤ L) (kk : ∀ σ2 : fnMem, zCR σ2 (mv σ2) → zWF (mv σ2) → V 1769 [.ref 101, .ref 0, .ref 51, zI i] [] σ2) : V 1065 [.ref 101, .ref 0, .ref 51, zI i] [] σ := by
  obtain ⟨hV, hL, hI, hA, hR⟩ := h
  refine fn_aload_1 hV dL_law_1065 ?_
  refine fn_cV0I hV (c_X10_best E _ (mv σ) hC hW) mv_X10_best lk_L_119 dL_law_1066 sh_0 rfl ⟨rfl, rfl⟩ rfl (fun z1 σ1 hp1 => ?_)
  obtain ⟨hz1, hC1, hf1⟩ := hp1
  have e1 : mv σ1 = mv σ := funext fun k => hf1 (51 + k) (by omega)
  refine fn_aload_2 hV dL_law_1069 ?_
  refine fn_cV0I hV (c_X11_best E σ1 (by rw [e1]; exact hW)) mv_X11_best lk_L_122 dL_law_1070 sh_51 rfl ⟨rfl, rfl⟩ rfl (fun z2 σ2 hp2 => ?_)
  rw [e1] at hp2
  obtain ⟨hz2, hs2, hf2⟩ := hp2
  refine fn_icmp_eqT hV dL_law_1073 (by rw [hz1, hz2]) ?_
  exact kk σ2 (zCR_sc hC1 hf2 hs2) (zWF_sc hW hs2)
theorem lw_case_26 {E : fnE} {L : Nat} {xs : Nat → Int32} {V : fnV} (h : lwX E L xs V) {σ : fnMem} (hC : zCR σ (mv σ)) (hW : zWF (mv σ)) {i : Int} (i0 : 0 ≤ i) (i1 : i + 7 ≤ L) (kk : ∀ σ2 : fnMem, zCR σ2 (mv σ2) → zWF (mv σ2) → V 1769 [.ref 101, .ref 0, .ref 51, zI i] [] σ2) : V 1078 [.ref 101, .ref 0, .ref 51, zI i] [] σ := by
  obtain ⟨hV, hL, hI, hA, hR⟩ := h
  refine fn_aload_1 hV dL_law_1078 ?_
  refine fn_aload_0 hV dL_law_1079 ?_
  refine fn_iload_3 hV dL_law_1080 ?_
  refine fn_iconst hV dL_law_1081 ?_
  refine fn_iadd hV dL_law_1082 ?_
  refine hI _ _ _ _ _ _ dL_law_1083 (by omega) (by omega) ?_
  refine fn_cV1I hV (c_X10_bestCode E _ (mv σ) hC hW _ (lw_R _)) mv_X10_bestCode lk_L_123 dL_law_1084 sh_0 rfl ⟨rfl, rfl⟩ rfl (fun z1 σ1 hp1 => ?_)
  obtain ⟨hz1, hC1, hf1⟩ := hp1
  have e1 : mv σ1 = mv σ := funext fun k => hf1 (51 + k) (by omega)
  refine fn_aload_2 hV dL_law_1087 ?_
  refine fn_aload_0 hV dL_law_1088 ?_
  refine fn_iload_3 hV dL_law_1089 ?_
  refine fn_iconst hV dL_law_1090 ?_
  refine fn_iadd hV dL_law_1091 ?_
  refine hI _ _ _ _ _ _ dL_law_1092 (by omega) (by omega) ?_
  refine fn_cV1I hV (c_X11_bestCode E σ1 (by rw [e1]; exact hW) _ (lw_R _)) mv_X11_bestCode lk_L_126 dL_law_1093 sh_51 rfl ⟨rfl, rfl⟩ rfl (fun z2 σ2 hp2 => ?_)
  rw [e1] at hp2
  obtain ⟨hz2, hs2, hf2⟩ := hp2
  refine fn_icmp_eqT hV dL_law_1096 (by rw [hz1, hz2]) ?_
  exact kk σ2 (zCR_sc hC1 hf2 hs2) (zWF_sc hW hs2)
theorem lw_case_27 {E : fnE} {L : Nat} {xs : Nat → Int32} {V : fnV} (h : lwX E L xs V) {σ : fnMem} (hC : zCR σ (mv σ)) (hW : zWF (mv σ)) {i : Int} (i0 : 0 ≤ i) (i1 : i + 7 ≤ L) (kk : ∀ σ2 : fnMem, zCR σ2 (mv σ2) → zWF (mv σ2) → V 1769 [.ref 101, .ref 0, .ref 51, zI i] [] σ2) : V 1101 [.ref 101, .ref 0, .ref 51, zI i] [] σ := by
  obtain ⟨hV, hL, hI, hA, hR⟩ := h
  refine fn_aload_1 hV dL_law_1101 ?_
  refine fn_cV0I hV (c_X10_layBest E _ (mv σ) hC hW) mv_X10_layBest lk_L_127 dL_law_1102 sh_0 rfl ⟨rfl, rfl⟩ rfl (fun z1 σ1 hp1 => ?_)
  obtain ⟨hz1, hC1, hf1⟩ := hp1
  have e1 : mv σ1 = mv σ := funext fun k => hf1 (51 + k) (by omega)
  refine fn_aload_2 hV dL_law_1105 ?_
  refine fn_cV0I hV (c_X11_layBest E σ1 (by rw [e1]; exact hW)) mv_X11_layBest lk_L_130 dL_law_1106 sh_51 rfl ⟨rfl, rfl⟩ rfl (fun z2 σ2 hp2 => ?_)
  rw [e1] at hp2
  obtain ⟨hz2, hs2, hf2⟩ := hp2
  refine fn_icmp_eqT hV dL_law_1109 (by rw [hz1, hz2]) ?_
  exact kk σ2 (zCR_sc hC1 hf2 hs2) (zWF_sc (W_layBest hW) hs2)
theorem lw_case_28 {E : fnE} {L : Nat} {xs : Nat → Int32} {V : fnV} (h : lwX E L xs V) {σ : fnMem} (hC : zCR σ (mv σ)) (hW : zWF (mv σ)) {i : Int} (i0 : 0 ≤ i) (i1 : i + 7 ≤ L) (kk : ∀ σ2 : fnMem, zCR σ2 (mv σ2) → zWF (mv σ2) → V 1769 [.ref 101, .ref 0, .ref 51, zI i] [] σ2) : V 1114 [.ref 101, .ref 0, .ref 51, zI i] [] σ := by
  obtain ⟨hV, hL, hI, hA, hR⟩ := h
  refine fn_aload_1 hV dL_law_1114 ?_
  refine fn_aload_0 hV dL_law_1115 ?_
  refine fn_iload_3 hV dL_law_1116 ?_
  refine fn_iconst hV dL_law_1117 ?_
  refine fn_iadd hV dL_law_1118 ?_
  refine hI _ _ _ _ _ _ dL_law_1119 (by omega) (by omega) ?_
  refine fn_aload_0 hV dL_law_1120 ?_
  refine fn_iload_3 hV dL_law_1121 ?_
  refine fn_iconst hV dL_law_1122 ?_
  refine fn_iadd hV dL_law_1123 ?_
  refine hI _ _ _ _ _ _ dL_law_1124 (by omega) (by omega) ?_
  refine fn_aload_0 hV dL_law_1125 ?_
  refine fn_iload_3 hV dL_law_1126 ?_
  refine fn_iconst hV dL_law_1127 ?_
  refine fn_iadd hV dL_law_1128 ?_
  refine hI _ _ _ _ _ _ dL_law_1129 (by omega) (by omega) ?_
  refine fn_cV3I hV (c_X10_place E _ (mv σ) hC hW _ (lw_R _) _ (lw_R _) _ (lw_R _)) mv_X10_place lk_L_131 dL_law_1130 sh_0 rfl ⟨rfl, rfl⟩ rfl (fun z1 σ1 hp1 => ?_)
  obtain ⟨hz1, hC1, hf1⟩ := hp1
  have e1 : mv σ1 = mv σ := funext fun k => hf1 (51 + k) (by omega)
  refine fn_aload_2 hV dL_law_1133 ?_
  refine fn_aload_0 hV dL_law_1134 ?_
  refine fn_iload_3 hV dL_law_1135 ?_
  refine fn_iconst hV dL_law_1136 ?_
  refine fn_iadd hV dL_law_1137 ?_
  refine hI _ _ _ _ _ _ dL_law_1138 (by omega) (by omega) ?_
  refine fn_aload_0 hV dL_law_1139 ?_
  refine fn_iload_3 hV dL_law_1140 ?_
  refine fn_iconst hV dL_law_1141 ?_
  refine fn_iadd hV dL_law_1142 ?_
  refine hI _ _ _ _ _ _ dL_law_1143 (by omega) (by omega) ?_
  refine fn_aload_0 hV dL_law_1144 ?_
  refine fn_iload_3 hV dL_law_1145 ?_
  refine fn_iconst hV dL_law_1146 ?_
  refine fn_iadd hV dL_law_1147 ?_
  refine hI _ _ _ _ _ _ dL_law_1148 (by omega) (by omega) ?_
  refine fn_cV3I hV (c_X11_place E σ1 (by rw [e1]; exact hW) _ (lw_R _) _ (lw_R _) _ (lw_R _)) mv_X11_place lk_L_134 dL_law_1149 sh_51 rfl ⟨rfl, rfl⟩ rfl (fun z2 σ2 hp2 => ?_)
  rw [e1] at hp2
  obtain ⟨hz2, hs2, hf2⟩ := hp2
  refine fn_icmp_eqT hV dL_law_1152 (by rw [hz1, hz2]) ?_
  exact kk σ2 (zCR_sc hC1 hf2 hs2) (zWF_sc (W_place hW _ _ _) hs2)
theorem lw_case_29 {E : fnE} {L : Nat} {xs : Nat → Int32} {V : fnV} (h : lwX E L xs V) {σ : fnMem} (hC : zCR σ (mv σ)) (hW : zWF (mv σ)) {i : Int} (i0 : 0 ≤ i) (i1 : i + 7 ≤ L) (kk : ∀ σ2 : fnMem, zCR σ2 (mv σ2) → zWF (mv σ2) → V 1769 [.ref 101, .ref 0, .ref 51, zI i] [] σ2) : V 1157 [.ref 101, .ref 0, .ref 51, zI i] [] σ := by
  obtain ⟨hV, hL, hI, hA, hR⟩ := h
  refine fn_aload_1 hV dL_law_1157 ?_
  refine fn_aload_0 hV dL_law_1158 ?_
  refine fn_iload_3 hV dL_law_1159 ?_
  refine fn_iconst hV dL_law_1160 ?_
  refine fn_iadd hV dL_law_1161 ?_
  refine hI _ _ _ _ _ _ dL_law_1162 (by omega) (by omega) ?_
  refine fn_aload_0 hV dL_law_1163 ?_
  refine fn_iload_3 hV dL_law_1164 ?_
  refine fn_iconst hV dL_law_1165 ?_
  refine fn_iadd hV dL_law_1166 ?_
  refine hI _ _ _ _ _ _ dL_law_1167 (by omega) (by omega) ?_
  refine fn_cV2I hV (c_X10_note E _ (mv σ) hC hW _ (lw_R _) _ (lw_R _)) mv_X10_note lk_L_135 dL_law_1168 sh_0 rfl ⟨rfl, rfl⟩ rfl (fun z1 σ1 hp1 => ?_)
  obtain ⟨hz1, hC1, hf1⟩ := hp1
  have e1 : mv σ1 = mv σ := funext fun k => hf1 (51 + k) (by omega)
  refine fn_aload_2 hV dL_law_1171 ?_
  refine fn_aload_0 hV dL_law_1172 ?_
  refine fn_iload_3 hV dL_law_1173 ?_
  refine fn_iconst hV dL_law_1174 ?_
  refine fn_iadd hV dL_law_1175 ?_
  refine hI _ _ _ _ _ _ dL_law_1176 (by omega) (by omega) ?_
  refine fn_aload_0 hV dL_law_1177 ?_
  refine fn_iload_3 hV dL_law_1178 ?_
  refine fn_iconst hV dL_law_1179 ?_
  refine fn_iadd hV dL_law_1180 ?_
  refine hI _ _ _ _ _ _ dL_law_1181 (by omega) (by omega) ?_
  refine fn_cV2I hV (c_X11_note E σ1 (by rw [e1]; exact hW) _ (lw_R _) _ (lw_R _)) mv_X11_note lk_L_138 dL_law_1182 sh_51 rfl ⟨rfl, rfl⟩ rfl (fun z2 σ2 hp2 => ?_)
  rw [e1] at hp2
  obtain ⟨hz2, hs2, hf2⟩ := hp2
  refine fn_icmp_eqT hV dL_law_1185 (by rw [hz1, hz2]) ?_
  exact kk σ2 (zCR_sc hC1 hf2 hs2) (zWF_sc (W_note hW _ _) hs2)
