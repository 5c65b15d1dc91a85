/-! the law's loop -/
section LWL
variable {p : Program} {l : Launch} {e : Env} {s : State} {m : MethodId} {below : List Frame} {meth : Method} {c : Code} {b L : Nat} {xs : Nat → Int32} {adX adM : Nat → Nat} {D : va_G} {cI cZ : ClassId} {KC KS : Nat}
theorem j_tabOut {i j : Nat} {σ μ : z_Sto} (X : lw_X p s m meth c b L xs D cI cZ KC KS) (hj : j < 32) (h : 18 < j) (k : lw_J p l e s m below meth c b adX adM D cI cZ KC KS 739 i [] σ μ) : lw_J p l e s m below meth c b adX adM D cI cZ KC KS 32 i [.int (nI j)] σ μ := by
  intro H locs ls h1 h2 h3 h4 h5 h6 hl
  refine lv_tableOut X.1 X.2.1 dL_law_32 (Or.inr ?_) (tgt := 739) (by decide) (k H locs ls h1 h2 h3 h4 h5 h6 hl)
  rw [nI_toInt (by omega)]
  omega
theorem j_tabIn {i j tgt : Nat} {off : Int} {σ μ : z_Sto} (X : lw_X p s m meth c b L xs D cI cZ KC KS) (h : j ≤ 18) (ho : (#[92, 125, 158, 191, 240, 263, 286, 319, 332, 365, 418, 451, 474, 533, 576, 615, 648, 671, 694] : Array Int)[j]? = some off) (ht : ((32 : Nat) : Int) + off = (tgt : Int)) (k : lw_J p l e s m below meth c b adX adM D cI cZ KC KS tgt i [] σ μ) : lw_J p l e s m below meth c b adX adM D cI cZ KC KS 32 i [.int (nI j)] σ μ := by
  intro H locs ls h1 h2 h3 h4 h5 h6 hl
  have hq : (nI j).toInt = (j : Int) := nI_toInt (by omega)
  refine lv_tableIn X.1 X.2.1 dL_law_32 (by rw [hq]; omega) (by rw [hq]; omega) (off := off) ?_ ht (k H locs ls h1 h2 h3 h4 h5 h6 hl)
  rw [hq, show ((j : Int) - 0).toNat = j by omega]
  exact ho
theorem j_head {i : Nat} {σ μ : z_Sto} (X : lw_X p s m meth c b L xs D cI cZ KC KS) (hi : i ≤ L) (kt : L < i + 5 → lw_J p l e s m below meth c b adX adM D cI cZ KC KS 745 i [] σ μ) (kf : i + 5 ≤ L → lw_J p l e s m below meth c b adX adM D cI cZ KC KS 26 i [] σ μ) : lw_J p l e s m below meth c b adX adM D cI cZ KC KS 18 i [] σ μ := by
  intro H locs ls h1 h2 h3 h4 h5 h6 hl
  obtain ⟨x1, x2, x3, x4, x5, x6, x7, x8, x9, x10, x11, x12, x13, x14⟩ := id X
  refine lv_iload_n x1 x2 dL_law_18 rfl (lv_at hl 3 rfl) ?_
  refine lv_aload_n x1 x2 dL_law_19 rfl (lv_at hl 0 rfl) ?_
  refine va_slen x1 x2 x7 x8 (Nat.not_le.mpr x8) h6 dL_law_20 ?_
  refine lv_iconst (v := nI 5) x1 x2 dL_law_21 (by decide) ?_
  refine lv_isub x1 x2 dL_law_22 ?_
  have e1 : (Int32.ofNat L - nI 5).toInt = (L : Int) - 5 := pk_sub_toInt (a := L) (b := 5) (by omega) (by decide)
  have e2 : (nI i).toInt = (i : Int) := nI_toInt (by omega)
  refine lv_icmp_gt (tgt := 745) x1 x2 dL_law_23 (by decide) (fun g => ?_) (fun g => ?_)
  · refine kt ?_ H locs ls h1 h2 h3 h4 h5 h6 hl
    have g' : Int32.ofNat L - nI 5 < nI i := g
    rw [Int32.lt_iff_toInt_lt, e1, e2] at g'
    omega
  · refine kf ?_ H locs ls h1 h2 h3 h4 h5 h6 hl
    have g' : ¬ Int32.ofNat L - nI 5 < nI i := g
    rw [Int32.lt_iff_toInt_lt, e1, e2] at g'
    omega
theorem j_sel {i : Nat} {σ μ : z_Sto} (X : lw_X p s m meth c b L xs D cI cZ KC KS) (hi : i + 5 ≤ L) (k : ∀ j, j < 32 → lw_J p l e s m below meth c b adX adM D cI cZ KC KS 32 i [.int (nI j)] σ μ) : lw_J p l e s m below meth c b adX adM D cI cZ KC KS 26 i [] σ μ := by
  intro H locs ls h1 h2 h3 h4 h5 h6 hl
  obtain ⟨x1, x2, x3, x4, x5, x6, x7, x8, x9, x10, x11, x12, x13, x14⟩ := id X
  refine lv_aload_n x1 x2 dL_law_26 rfl (lv_at hl 0 rfl) ?_
  refine lv_iload_n x1 x2 dL_law_27 rfl (lv_at hl 3 rfl) ?_
  refine va_sld x1 x2 x7 x8 (Nat.not_le.mpr x8) h6 (vp_in_nI (by omega) (by omega)) dL_law_28 ?_
  refine lv_bipush (v := nI 31) x1 x2 dL_law_29 (by decide) ?_
  refine lv_iand x1 x2 dL_law_31 ?_
  obtain ⟨j, hj, ej⟩ := pk_andE (xs (nI i).toNatClampNeg) (m := nI 31) 5 (by decide)
  rw [ej]
  exact k j hj H locs ls h1 h2 h3 h4 h5 h6 hl
theorem j_next {i : Nat} {σ μ : z_Sto} (X : lw_X p s m meth c b L xs D cI cZ KC KS) (k : lw_J p l e s m below meth c b adX adM D cI cZ KC KS 18 (i + 5) [] σ μ) : lw_J p l e s m below meth c b adX adM D cI cZ KC KS 739 i [] σ μ := by
  intro H locs ls h1 h2 h3 h4 h5 h6 hl
  refine lv_iinc (v := nI (i + 5)) (lv' := [(3, .int (nI (i + 5))), (0, .ref b), (1, .ref (adX 0)), (2, .ref (adM 0))]) X.1 X.2.1 dL_law_739 hl (k := 3) rfl (by rw [← nI_add]; rfl) (by decide) rfl (fun ls hl => ?_)
  exact lv_goto (tgt := 18) X.1 X.2.1 dL_law_742 (by decide) (k H locs ls h1 h2 h3 h4 h5 h6 (lv_sub hl [1, 2, 3, 0] rfl))
theorem j_exit {i : Nat} {σ μ : z_Sto} (X : lw_X p s m meth c b L xs D cI cZ KC KS) : lw_J p l e s m below meth c b adX adM D cI cZ KC KS 745 i [] σ μ := by
  intro H locs ls h1 h2 h3 h4 h5 h6 hl
  obtain ⟨x1, x2, x3, x4, x5, x6, x7, x8, x9, x10, x11, x12, x13, x14⟩ := id X
  refine lv_iconst (v := 1) x1 x2 dL_law_745 (by decide) ?_
  refine va_forget (fun q hq => h6.2.2 q hq) ?_
  refine W.widen (k := 600000) (n := 7302250) x13 x14 ?_
  exact lw_ret x1 x2 x3 x9 dL_law_746
theorem lw_loop (X : lw_X p s m meth c b L xs D cI cZ KC KS) : ∀ (n i : Nat) (σ μ : z_Sto), i ≤ L → L + 1 ≤ i + n → lw_rel σ μ → lw_J p l e s m below meth c b adX adM D cI cZ KC KS 18 i [] σ μ
  | 0, i, _, _, h1, h2, _ => absurd h2 (by omega)
  | n + 1, i, σ, μ, h1, h2, R => by
    refine j_head X h1 (fun _ => j_exit X) (fun hi => j_sel X hi (fun j hj => ?_))
    have kk : ∀ σ' μ', lw_rel σ' μ' → lw_J p l e s m below meth c b adX adM D cI cZ KC KS 739 i [] σ' μ' := fun σ' μ' R' => j_next X (lw_loop X n (i + 5) σ' μ' hi (by omega) R')
    by_cases hb : 18 < j
    · exact j_tabOut X hj hb (kk σ μ R)
    · rcases (show j = 0 ∨ j = 1 ∨ j = 2 ∨ j = 3 ∨ j = 4 ∨ j = 5 ∨ j = 6 ∨ j = 7 ∨ j = 8 ∨ j = 9 ∨ j = 10 ∨ j = 11 ∨ j = 12 ∨ j = 13 ∨ j = 14 ∨ j = 15 ∨ j = 16 ∨ j = 17 ∨ j = 18 by omega) with rfl | rfl | rfl | rfl | rfl | rfl | rfl | rfl | rfl | rfl | rfl | rfl | rfl | rfl | rfl | rfl | rfl | rfl | rfl
      · exact j_tabIn X (by decide) (off := 92) rfl (tgt := 124) (by decide) (lc_0 X hi R kk)
      · exact j_tabIn X (by decide) (off := 125) rfl (tgt := 157) (by decide) (lc_1 X hi R kk)
      · exact j_tabIn X (by decide) (off := 158) rfl (tgt := 190) (by decide) (lc_2 X hi R kk)
      · exact j_tabIn X (by decide) (off := 191) rfl (tgt := 223) (by decide) (lc_3 X hi R kk)
      · exact j_tabIn X (by decide) (off := 240) rfl (tgt := 272) (by decide) (lc_4 X hi R kk)
      · exact j_tabIn X (by decide) (off := 263) rfl (tgt := 295) (by decide) (lc_5 X hi R kk)
      · exact j_tabIn X (by decide) (off := 286) rfl (tgt := 318) (by decide) (lc_6 X hi R kk)
      · exact j_tabIn X (by decide) (off := 319) rfl (tgt := 351) (by decide) (lc_7 X hi R kk)
      · exact j_tabIn X (by decide) (off := 332) rfl (tgt := 364) (by decide) (lc_8 X hi R kk)
      · exact j_tabIn X (by decide) (off := 365) rfl (tgt := 397) (by decide) (lc_9 X hi R kk)
      · exact j_tabIn X (by decide) (off := 418) rfl (tgt := 450) (by decide) (lc_10 X hi R kk)
      · exact j_tabIn X (by decide) (off := 451) rfl (tgt := 483) (by decide) (lc_11 X hi R kk)
      · exact j_tabIn X (by decide) (off := 474) rfl (tgt := 506) (by decide) (lc_12 X hi R kk)
      · exact j_tabIn X (by decide) (off := 533) rfl (tgt := 565) (by decide) (lc_13 X hi R kk)
      · exact j_tabIn X (by decide) (off := 576) rfl (tgt := 608) (by decide) (lc_14 X hi R kk)
      · exact j_tabIn X (by decide) (off := 615) rfl (tgt := 647) (by decide) (lc_15 X hi R kk)
      · exact j_tabIn X (by decide) (off := 648) rfl (tgt := 680) (by decide) (lc_16 X hi R kk)
      · exact j_tabIn X (by decide) (off := 671) rfl (tgt := 703) (by decide) (lc_17 X hi R kk)
      · exact j_tabIn X (by decide) (off := 694) rfl (tgt := 726) (by decide) (lc_18 X hi R kk)
end LWL
