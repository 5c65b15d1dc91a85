/-! the board at cell 11, its rules' numbers at 2 -/
set_option maxRecDepth 20000 in
theorem c_X0_isUp {σ : z_Sto} {i : Nat} (hi : i < 12) (h01 : σ 16 i = nI 0 ∨ σ 16 i = nI 1) : z_R layX iX0_isUp 0 [some (.ref 11), some (.int (nI i))] [] σ (fun r σ' => r = some (.int (σ 16 i)) ∧ σ' = σ) := by
  refine z_aload_n (pc := 0) dX0_isUp_0 rfl ?_
  refine z_getA (pc := 1) f_X0_27 dX0_isUp_1 (by decide) rfl rfl ?_
  refine z_iload_n (pc := 4) dX0_isUp_4 rfl ?_
  refine z_zaldN (pc := 5) dX0_isUp_5 (by decide) rfl (by decide) (hi) ?_
  exact z_ireturn (pc := 6) dX0_isUp_6 rfl (z_nar h01) (⟨rfl, rfl⟩)
set_option maxRecDepth 20000 in
theorem c_X0_isShut {σ : z_Sto} {i s : Nat} (hi : i < 12) (hsl : σ 5 i = nI s) (hs : s < 16) (h01 : σ 15 s = nI 0 ∨ σ 15 s = nI 1) : z_R layX iX0_isShut 0 [some (.ref 11), some (.int (nI i))] [] σ (fun r σ' => r = some (.int (σ 15 s)) ∧ σ' = σ) := by
  refine z_aload_n (pc := 0) dX0_isShut_0 rfl ?_
  refine z_getA (pc := 1) f_X0_23 dX0_isShut_1 (by decide) rfl rfl ?_
  refine z_aload_n (pc := 4) dX0_isShut_4 rfl ?_
  refine z_getA (pc := 5) f_X0_46 dX0_isShut_5 (by decide) rfl rfl ?_
  refine z_iload_n (pc := 8) dX0_isShut_8 rfl ?_
  refine z_cV1 (pc := 9) mX4_slotOf l_X0_62 (by decide) dX0_isShut_9 (by decide) rfl rfl (by decide) (Nat.le_of_ble_eq_true rfl) (c_X4_slotOf hi) rfl (fun r9 σ9 hr9 => ?_)
  obtain ⟨rfl, rfl⟩ := hr9
  rw [hsl]
  refine z_zaldN (pc := 12) dX0_isShut_12 (by decide) rfl (by decide) (hs) ?_
  exact z_ireturn (pc := 13) dX0_isShut_13 rfl (z_nar h01) (⟨rfl, rfl⟩)
set_option maxRecDepth 20000 in
theorem c_X0_isSeen {σ : z_Sto} {i s : Nat} (hi : i < 12) (hsl : σ 5 i = nI s) (hs : s < 16) (h01 : σ 15 s = nI 0 ∨ σ 15 s = nI 1) : z_R layX iX0_isSeen 0 [some (.ref 11), some (.int (nI i))] [] σ (fun r σ' => r = some (.int (x_sn 11 s i σ)) ∧ σ' = σ) := by
  refine z_aload_n (pc := 0) dX0_isSeen_0 rfl ?_
  refine z_getA (pc := 1) f_X0_27 dX0_isSeen_1 (by decide) rfl rfl ?_
  refine z_iload_n (pc := 4) dX0_isSeen_4 rfl ?_
  refine z_zaldN (pc := 5) dX0_isSeen_5 (by decide) rfl (by decide) (hi) ?_
  refine z_if_eq (pc := 6) (tgt := 21) dX0_isSeen_6 (by decide) (fun h6 => ?_) (fun h6 => ?_)
  · refine z_iconst (pc := 21) (v := (nI 0)) dX0_isSeen_21 (by decide) ?_
    exact z_ireturn (pc := 22) dX0_isSeen_22 rfl (by decide) (⟨by first | rw [x_sn, if_pos h6] | rw [x_sn, if_neg h6, if_neg h14] | rw [x_sn, if_neg h6, if_pos h14], rfl⟩)
  · refine z_aload_n (pc := 9) dX0_isSeen_9 rfl ?_
    refine z_iload_n (pc := 10) dX0_isSeen_10 rfl ?_
    refine z_cV1 (pc := 11) mX0_isShut l_X0_66 (by decide) dX0_isSeen_11 (by decide) rfl rfl (by decide) (Nat.le_of_ble_eq_true rfl) (c_X0_isShut hi hsl hs h01) rfl (fun r11 σ11 hr11 => ?_)
    obtain ⟨rfl, rfl⟩ := hr11
    refine z_if_ne (pc := 14) (tgt := 21) dX0_isSeen_14 (by decide) (fun h14 => ?_) (fun h14 => ?_)
    · refine z_iconst (pc := 21) (v := (nI 0)) dX0_isSeen_21 (by decide) ?_
      exact z_ireturn (pc := 22) dX0_isSeen_22 rfl (by decide) (⟨by first | rw [x_sn, if_pos h6] | rw [x_sn, if_neg h6, if_neg h14] | rw [x_sn, if_neg h6, if_pos h14], rfl⟩)
    · refine z_iconst (pc := 17) (v := (nI 1)) dX0_isSeen_17 (by decide) ?_
      refine z_goto (pc := 18) (tgt := 22) dX0_isSeen_18 (by decide) ?_
      exact z_ireturn (pc := 22) dX0_isSeen_22 rfl (by decide) (⟨by first | rw [x_sn, if_pos h6] | rw [x_sn, if_neg h6, if_neg h14] | rw [x_sn, if_neg h6, if_pos h14], rfl⟩)
set_option maxRecDepth 20000 in
theorem c_X0_join {σ : z_Sto} {i s : Nat} (hi : i < 12) (hsl : σ 5 i = nI s) (hs : s < 16) (h01 : σ 15 s = nI 0 ∨ σ 15 s = nI 1) : z_R layX iX0_join 0 [some (.ref 11), some (.int (nI i))] [] σ (fun r σ' => r = none ∧ σ' = z_up σ 17 i (x_sn 11 s i σ)) := by
  refine z_aload_n (pc := 0) dX0_join_0 rfl ?_
  refine z_getA (pc := 1) f_X0_30 dX0_join_1 (by decide) rfl rfl ?_
  refine z_iload_n (pc := 4) dX0_join_4 rfl ?_
  refine z_aload_n (pc := 5) dX0_join_5 rfl ?_
  refine z_iload_n (pc := 6) dX0_join_6 rfl ?_
  refine z_cV1 (pc := 7) mX0_isSeen l_X0_58 (by decide) dX0_join_7 (by decide) rfl rfl (by decide) (Nat.le_of_ble_eq_true rfl) (c_X0_isSeen hi hsl hs h01) rfl (fun r7 σ7 hr7 => ?_)
  obtain ⟨rfl, rfl⟩ := hr7
  refine z_zastN (pc := 10) dX0_join_10 (by decide) rfl (by decide) (hi) (by unfold x_sn; split; exact Or.inl rfl; split; exact Or.inr rfl; exact Or.inl rfl) ?_
  exact z_return (pc := 11) dX0_join_11 rfl (⟨rfl, rfl⟩)
set_option maxRecDepth 20000 in
theorem c_X0_flipsOf {σ : z_Sto} {i : Nat} (hi : i < 12) : z_R layX iX0_flipsOf 0 [some (.ref 11), some (.int (nI i))] [] σ (fun r σ' => r = some (.int (σ 18 i)) ∧ σ' = σ) := by
  refine z_aload_n (pc := 0) dX0_flipsOf_0 rfl ?_
  refine z_getA (pc := 1) f_X0_33 dX0_flipsOf_1 (by decide) rfl rfl ?_
  refine z_iload_n (pc := 4) dX0_flipsOf_4 rfl ?_
  refine z_ialdN (pc := 5) dX0_flipsOf_5 (by decide) rfl (by decide) (hi) ?_
  exact z_ireturn (pc := 6) dX0_flipsOf_6 rfl rfl (⟨rfl, rfl⟩)
set_option maxRecDepth 20000 in
theorem c_X0_lostOf {σ : z_Sto} {i : Nat} (hi : i < 12) : z_R layX iX0_lostOf 0 [some (.ref 11), some (.int (nI i))] [] σ (fun r σ' => r = some (.int (σ 19 i)) ∧ σ' = σ) := by
  refine z_aload_n (pc := 0) dX0_lostOf_0 rfl ?_
  refine z_getA (pc := 1) f_X0_36 dX0_lostOf_1 (by decide) rfl rfl ?_
  refine z_iload_n (pc := 4) dX0_lostOf_4 rfl ?_
  refine z_ialdN (pc := 5) dX0_lostOf_5 (by decide) rfl (by decide) (hi) ?_
  exact z_ireturn (pc := 6) dX0_lostOf_6 rfl rfl (⟨rfl, rfl⟩)
set_option maxRecDepth 20000 in
theorem c_X0_wasEverShut {σ : z_Sto} (h01 : σ 11 11 = nI 0 ∨ σ 11 11 = nI 1) : z_R layX iX0_wasEverShut 0 [some (.ref 11)] [] σ (fun r σ' => r = some (.int (σ 11 11)) ∧ σ' = σ) := by
  refine z_aload_n (pc := 0) dX0_wasEverShut_0 rfl ?_
  refine z_getI (pc := 1) f_X0_53 dX0_wasEverShut_1 (by decide) rfl rfl ?_
  exact z_ireturn (pc := 4) dX0_wasEverShut_4 rfl (z_nar h01) (⟨rfl, rfl⟩)
set_option maxRecDepth 20000 in
theorem c_X0_firstOf {σ : z_Sto} {s : Nat} (hs : s < 16) : z_R layX iX0_firstOf 0 [some (.ref 11), some (.int (nI s))] [] σ (fun r σ' => r = some (.int (nI (x_fst s))) ∧ σ' = σ) := by
  refine z_iload_n (pc := 0) dX0_firstOf_0 rfl ?_
  refine z_bipush (pc := 1) (v := (nI 12)) dX0_firstOf_1 (by decide) ?_
  refine z_icmp_ge (pc := 3) (tgt := 10) dX0_firstOf_3 (by decide) (fun h3 => ?_) (fun h3 => ?_)
  · have q3 : ¬ s < 12 := fun q => absurd ((nI_leI (by decide) (by omega)).mp h3) (by omega)
    refine z_iconst (pc := 10) (v := (nI 0)) dX0_firstOf_10 (by decide) ?_
    exact z_ireturn (pc := 11) dX0_firstOf_11 rfl rfl (⟨by simp [x_fst, q3], rfl⟩)
  · have q3 : s < 12 := by have : ¬ 12 ≤ s := fun q => h3 ((nI_leI (by decide) (by omega)).mpr q); omega
    refine z_iload_n (pc := 6) dX0_firstOf_6 rfl ?_
    refine z_goto (pc := 7) (tgt := 11) dX0_firstOf_7 (by decide) ?_
    exact z_ireturn (pc := 11) dX0_firstOf_11 rfl rfl (⟨by simp [x_fst, q3], rfl⟩)
set_option maxRecDepth 20000 in
theorem c_X0_endOf {σ : z_Sto} {s n : Nat} (hs : s < 16) (hn : σ 3 3 = nI n) (h12 : n ≤ 12) : z_R layX iX0_endOf 0 [some (.ref 11), some (.int (nI s))] [] σ (fun r σ' => r = some (.int (nI (x_end s n))) ∧ σ' = σ) := by
  refine z_aload_n (pc := 0) dX0_endOf_0 rfl ?_
  refine z_getA (pc := 1) f_X0_46 dX0_endOf_1 (by decide) rfl rfl ?_
  refine z_cV0 (pc := 4) mX4_size l_X0_69 (by decide) dX0_endOf_4 (by decide) rfl rfl (by decide) (Nat.le_of_ble_eq_true rfl) (c_X4_size) rfl (fun r4 σ4 hr4 => ?_)
  obtain ⟨rfl, rfl⟩ := hr4
  rw [hn]
  refine z_iload_n (pc := 7) dX0_endOf_7 rfl ?_
  refine z_bipush (pc := 8) (v := (nI 12)) dX0_endOf_8 (by decide) ?_
  refine z_icmp_ge (pc := 10) (tgt := 19) dX0_endOf_10 (by decide) (fun h10 => ?_) (fun h10 => ?_)
  · have q10 : ¬ s < 12 := fun q => absurd ((nI_leI (by decide) (by omega)).mp h10) (by omega)
    refine z_bipush (pc := 19) (v := (nI 12)) dX0_endOf_19 (by decide) ?_
    refine z_min (pc := 21) l_X0_100 (by decide) (Nat.le_of_ble_eq_true rfl) dX0_endOf_21 ?_
    exact z_ireturn (pc := 24) dX0_endOf_24 rfl rfl (⟨by simp only [x_end, q10, if_true, if_false, nI_ltI (show s + 1 < 2 ^ 31 by omega) (show n < 2 ^ 31 by omega), nI_ltI (show 12 < 2 ^ 31 by omega) (show n < 2 ^ 31 by omega)]; (try rw [if_neg (show ¬ 12 < n by omega)]); (try split <;> rfl), rfl⟩)
  · have q10 : s < 12 := by have : ¬ 12 ≤ s := fun q => h10 ((nI_leI (by decide) (by omega)).mpr q); omega
    refine z_iload_n (pc := 13) dX0_endOf_13 rfl ?_
    refine z_iconst (pc := 14) (v := (nI 1)) dX0_endOf_14 (by decide) ?_
    refine z_iaddN (pc := 15) dX0_endOf_15 ?_
    refine z_goto (pc := 16) (tgt := 21) dX0_endOf_16 (by decide) ?_
    refine z_min (pc := 21) l_X0_100 (by decide) (Nat.le_of_ble_eq_true rfl) dX0_endOf_21 ?_
    exact z_ireturn (pc := 24) dX0_endOf_24 rfl rfl (⟨by simp only [x_end, q10, if_true, if_false, nI_ltI (show s + 1 < 2 ^ 31 by omega) (show n < 2 ^ 31 by omega), nI_ltI (show 12 < 2 ^ 31 by omega) (show n < 2 ^ 31 by omega)]; (try rw [if_neg (show ¬ 12 < n by omega)]); (try split <;> rfl), rfl⟩)
set_option maxRecDepth 20000 in
theorem c_X0_penaltyAt {σ : z_Sto} {s h : Nat} {t : Int32} (hs : s < 16) (hh : σ 2 3 = nI h) (h1 : 1 ≤ h) (h2 : h ≤ 500) : z_R layX iX0_penaltyAt 0 [some (.ref 11), some (.int (nI s)), some (.int t)] [] σ (fun r σ' => r = some (.int (x_pen 11 2 s t σ)) ∧ σ' = σ) := by
  refine z_aload_n (pc := 0) dX0_penaltyAt_0 rfl ?_
  refine z_getA (pc := 1) f_X0_42 dX0_penaltyAt_1 (by decide) rfl rfl ?_
  refine z_aload_n (pc := 4) dX0_penaltyAt_4 rfl ?_
  refine z_getA (pc := 5) f_X0_11 dX0_penaltyAt_5 (by decide) rfl rfl ?_
  refine z_iload_n (pc := 8) dX0_penaltyAt_8 rfl ?_
  refine z_ialdN (pc := 9) dX0_penaltyAt_9 (by decide) rfl (by decide) (hs) ?_
  refine z_iload_n (pc := 10) dX0_penaltyAt_10 rfl ?_
  refine z_aload_n (pc := 11) dX0_penaltyAt_11 rfl ?_
  refine z_getA (pc := 12) f_X0_17 dX0_penaltyAt_12 (by decide) rfl rfl ?_
  refine z_iload_n (pc := 15) dX0_penaltyAt_15 rfl ?_
  refine z_ialdN (pc := 16) dX0_penaltyAt_16 (by decide) rfl (by decide) (hs) ?_
  refine z_isub (pc := 17) dX0_penaltyAt_17 ?_
  refine z_cV2 (pc := 18) mX5_fade l_X0_77 (by decide) dX0_penaltyAt_18 (by decide) rfl rfl (by decide) (Nat.le_of_ble_eq_true rfl) (c_X5_fade hh h1 h2) rfl (fun r18 σ18 hr18 => ?_)
  obtain ⟨rfl, rfl⟩ := hr18
  exact z_ireturn (pc := 21) dX0_penaltyAt_21 rfl rfl (⟨by rw [x_pen, hh], rfl⟩)
set_option maxRecDepth 20000 in
theorem c_X0_penaltyOf {σ : z_Sto} {i s h : Nat} {t : Int32} (hi : i < 12) (hsl : σ 5 i = nI s) (hs : s < 16) (hh : σ 2 3 = nI h) (h1 : 1 ≤ h) (h2 : h ≤ 500) : z_R layX iX0_penaltyOf 0 [some (.ref 11), some (.int (nI i)), some (.int t)] [] σ (fun r σ' => r = some (.int (x_pen 11 2 s t σ)) ∧ σ' = σ) := by
  refine z_aload_n (pc := 0) dX0_penaltyOf_0 rfl ?_
  refine z_aload_n (pc := 1) dX0_penaltyOf_1 rfl ?_
  refine z_getA (pc := 2) f_X0_46 dX0_penaltyOf_2 (by decide) rfl rfl ?_
  refine z_iload_n (pc := 5) dX0_penaltyOf_5 rfl ?_
  refine z_cV1 (pc := 6) mX4_slotOf l_X0_62 (by decide) dX0_penaltyOf_6 (by decide) rfl rfl (by decide) (Nat.le_of_ble_eq_true rfl) (c_X4_slotOf hi) rfl (fun r6 σ6 hr6 => ?_)
  obtain ⟨rfl, rfl⟩ := hr6
  rw [hsl]
  refine z_iload_n (pc := 9) dX0_penaltyOf_9 rfl ?_
  refine z_cV2 (pc := 10) mX0_penaltyAt l_X0_73 (by decide) dX0_penaltyOf_10 (by decide) rfl rfl (by decide) (Nat.le_of_ble_eq_true rfl) (c_X0_penaltyAt hs hh h1 h2) rfl (fun r10 σ10 hr10 => ?_)
  obtain ⟨rfl, rfl⟩ := hr10
  exact z_ireturn (pc := 13) dX0_penaltyOf_13 rfl rfl (⟨rfl, rfl⟩)
set_option maxRecDepth 20000 in
theorem c_X0_rpl {σ : z_Sto} {s h : Nat} {t : Int32} (hs : s ≤ 16) (hh : σ 2 3 = nI h) (h1 : 1 ≤ h) (h2 : h ≤ 500) : z_R layX iX0_restPenalties 2 [some (.ref 11), some (.int t), some (.int (nI s))] [] σ (fun r σ' => r = none ∧ σ' = x_rp 11 2 t (16 - s) s σ) := by
  generalize hf : 16 - s = f
  induction f using Nat.strongRecOn generalizing s σ
  rename_i f ih
  refine z_iload_n (pc := 2) dX0_restPenalties_2 rfl ?_
  refine z_bipush (pc := 3) (v := (nI 16)) dX0_restPenalties_3 (by decide) ?_
  refine z_icmp_ge (pc := 5) (tgt := 33) dX0_restPenalties_5 (by decide) (fun h5 => ?_) (fun h5 => ?_)
  · have q5 : f = 0 := by have := (nI_leI (by decide) (by omega)).mp h5; omega
    exact z_return (pc := 33) dX0_restPenalties_33 rfl (⟨rfl, by rw [q5]; rfl⟩)
  · have q5 : s < 16 := by have : ¬ 16 ≤ s := fun q => h5 ((nI_leI (by decide) (by omega)).mpr q); omega
    have hf1 : f = (16 - (s + 1)) + 1 := by omega
    refine z_aload_n (pc := 8) dX0_restPenalties_8 rfl ?_
    refine z_getA (pc := 9) f_X0_11 dX0_restPenalties_9 (by decide) rfl rfl ?_
    refine z_iload_n (pc := 12) dX0_restPenalties_12 rfl ?_
    refine z_aload_n (pc := 13) dX0_restPenalties_13 rfl ?_
    refine z_iload_n (pc := 14) dX0_restPenalties_14 rfl ?_
    refine z_iload_n (pc := 15) dX0_restPenalties_15 rfl ?_
    refine z_cV2 (pc := 16) mX0_penaltyAt l_X0_73 (by decide) dX0_restPenalties_16 (by decide) rfl rfl (by decide) (Nat.le_of_ble_eq_true rfl) (c_X0_penaltyAt q5 hh h1 h2) rfl (fun r16 σ16 hr16 => ?_)
    obtain ⟨rfl, rfl⟩ := hr16
    refine z_iastN (pc := 19) dX0_restPenalties_19 (by decide) rfl (by decide) (q5) ?_
    refine z_aload_n (pc := 20) dX0_restPenalties_20 rfl ?_
    refine z_getA (pc := 21) f_X0_17 dX0_restPenalties_21 (by decide) rfl rfl ?_
    refine z_iload_n (pc := 24) dX0_restPenalties_24 rfl ?_
    refine z_iload_n (pc := 25) dX0_restPenalties_25 rfl ?_
    refine z_iastN (pc := 26) dX0_restPenalties_26 (by decide) rfl (by decide) (q5) ?_
    refine z_iincN (pc := 27) dX0_restPenalties_27 rfl (by decide) rfl rfl ?_
    refine z_goto (pc := 30) (tgt := 2) dX0_restPenalties_30 (by decide) ?_
    exact (ih _ (by omega) (s := s + 1) (by omega) (by simp only [z_up_at, reduceIte, Nat.reduceEqDiff]; exact hh) rfl).mono (fun r σ' g => ⟨g.1, g.2.trans (by rw [hf1, x_rp]; rfl)⟩)
set_option maxRecDepth 20000 in
theorem c_X0_restPenalties {σ : z_Sto} {h : Nat} {t : Int32} (hh : σ 2 3 = nI h) (h1 : 1 ≤ h) (h2 : h ≤ 500) : z_R layX iX0_restPenalties 0 [some (.ref 11), some (.int t), none] [] σ (fun r σ' => r = none ∧ σ' = x_rp 11 2 t 16 0 σ) := by
  refine z_iconst (pc := 0) (v := (nI 0)) dX0_restPenalties_0 (by decide) ?_
  refine z_istore_n (pc := 1) dX0_restPenalties_1 (by decide) rfl rfl ?_
  exact c_X0_rpl (s := 0) (by decide) hh h1 h2
set_option maxRecDepth 20000 in
theorem c_X0_openingTick {σ : z_Sto} {s : Nat} {t : Int32} (hs : s < 16) : z_R layX iX0_openingTick 0 [some (.ref 11), some (.int (nI s)), some (.int t), none] [] σ (fun r σ' => r = some (.int (x_opn 11 2 s t σ)) ∧ σ' = σ) := by
  refine z_aload_n (pc := 0) dX0_openingTick_0 rfl ?_
  refine z_getA (pc := 1) f_X0_17 dX0_openingTick_1 (by decide) rfl rfl ?_
  refine z_iload_n (pc := 4) dX0_openingTick_4 rfl ?_
  refine z_ialdN (pc := 5) dX0_openingTick_5 (by decide) rfl (by decide) (hs) ?_
  refine z_aload_n (pc := 6) dX0_openingTick_6 rfl ?_
  refine z_getA (pc := 7) f_X0_42 dX0_openingTick_7 (by decide) rfl rfl ?_
  refine z_aload_n (pc := 10) dX0_openingTick_10 rfl ?_
  refine z_getA (pc := 11) f_X0_11 dX0_openingTick_11 (by decide) rfl rfl ?_
  refine z_iload_n (pc := 14) dX0_openingTick_14 rfl ?_
  refine z_ialdN (pc := 15) dX0_openingTick_15 (by decide) rfl (by decide) (hs) ?_
  refine z_aload_n (pc := 16) dX0_openingTick_16 rfl ?_
  refine z_getA (pc := 17) f_X0_42 dX0_openingTick_17 (by decide) rfl rfl ?_
  refine z_iconst (pc := 20) (v := (nI 5)) dX0_openingTick_20 (by decide) ?_
  refine z_cV1 (pc := 21) mX5_get l_X0_85 (by decide) dX0_openingTick_21 (by decide) rfl rfl (by decide) (Nat.le_of_ble_eq_true rfl) (c_X5_get (by decide)) rfl (fun r21 σ21 hr21 => ?_)
  obtain ⟨rfl, rfl⟩ := hr21
  refine z_cV2 (pc := 24) mX5_ticksTillBelow l_X0_88 (by decide) dX0_openingTick_24 (by decide) rfl rfl (by decide) (Nat.le_of_ble_eq_true rfl) (c_X5_ttb) rfl (fun r24 σ24 hr24 => ?_)
  obtain ⟨rfl, rfl⟩ := hr24
  refine z_iadd (pc := 27) dX0_openingTick_27 ?_
  refine z_istore_n (pc := 28) dX0_openingTick_28 (by decide) rfl rfl ?_
  refine z_iload_n (pc := 29) dX0_openingTick_29 rfl ?_
  refine z_iconst (pc := 30) (v := (nI 1)) dX0_openingTick_30 (by decide) ?_
  refine z_iadd (pc := 31) dX0_openingTick_31 ?_
  refine z_iload_n (pc := 32) dX0_openingTick_32 rfl ?_
  refine z_max (pc := 33) l_X0_91 (by decide) (Nat.le_of_ble_eq_true rfl) dX0_openingTick_33 ?_
  exact z_ireturn (pc := 36) dX0_openingTick_36 rfl rfl (⟨rfl, rfl⟩)
set_option maxRecDepth 20000 in
theorem c_X0_ticksTillOpen {σ : z_Sto} {i s : Nat} {t : Int32} (hi : i < 12) (hsl : σ 5 i = nI s) (hs : s < 16) : z_R layX iX0_ticksTillOpen 0 [some (.ref 11), some (.int (nI i)), some (.int t), none] [] σ (fun r σ' => r = some (.int (if σ 15 s = 0 then nI 0 else x_opn 11 2 s t σ - t)) ∧ σ' = σ) := by
  refine z_aload_n (pc := 0) dX0_ticksTillOpen_0 rfl ?_
  refine z_getA (pc := 1) f_X0_46 dX0_ticksTillOpen_1 (by decide) rfl rfl ?_
  refine z_iload_n (pc := 4) dX0_ticksTillOpen_4 rfl ?_
  refine z_cV1 (pc := 5) mX4_slotOf l_X0_62 (by decide) dX0_ticksTillOpen_5 (by decide) rfl rfl (by decide) (Nat.le_of_ble_eq_true rfl) (c_X4_slotOf hi) rfl (fun r5 σ5 hr5 => ?_)
  obtain ⟨rfl, rfl⟩ := hr5
  rw [hsl]
  refine z_istore_n (pc := 8) dX0_ticksTillOpen_8 (by decide) rfl rfl ?_
  refine z_aload_n (pc := 9) dX0_ticksTillOpen_9 rfl ?_
  refine z_getA (pc := 10) f_X0_23 dX0_ticksTillOpen_10 (by decide) rfl rfl ?_
  refine z_iload_n (pc := 13) dX0_ticksTillOpen_13 rfl ?_
  refine z_zaldN (pc := 14) dX0_ticksTillOpen_14 (by decide) rfl (by decide) (hs) ?_
  refine z_if_eq (pc := 15) (tgt := 29) dX0_ticksTillOpen_15 (by decide) (fun h15 => ?_) (fun h15 => ?_)
  · refine z_iconst (pc := 29) (v := (nI 0)) dX0_ticksTillOpen_29 (by decide) ?_
    exact z_ireturn (pc := 30) dX0_ticksTillOpen_30 rfl rfl (⟨by simp [h15], rfl⟩)
  · refine z_aload_n (pc := 18) dX0_ticksTillOpen_18 rfl ?_
    refine z_iload_n (pc := 19) dX0_ticksTillOpen_19 rfl ?_
    refine z_iload_n (pc := 20) dX0_ticksTillOpen_20 rfl ?_
    refine z_cV2 (pc := 21) mX0_openingTick l_X0_82 (by decide) dX0_ticksTillOpen_21 (by decide) rfl rfl (by decide) (Nat.le_of_ble_eq_true rfl) (c_X0_openingTick hs) rfl (fun r21 σ21 hr21 => ?_)
    obtain ⟨rfl, rfl⟩ := hr21
    refine z_iload_n (pc := 24) dX0_ticksTillOpen_24 rfl ?_
    refine z_isub (pc := 25) dX0_ticksTillOpen_25 ?_
    refine z_goto (pc := 26) (tgt := 30) dX0_ticksTillOpen_26 (by decide) ?_
    exact z_ireturn (pc := 30) dX0_ticksTillOpen_30 rfl rfl (⟨by simp [h15], rfl⟩)
set_option maxRecDepth 20000 in
theorem c_X0_wg2 {σ : z_Sto} {i w : Nat} {t : Int32} {v4 : Option Value} {Φ : z_Post} (hw : w < 3) (hΦ : Φ (some (.int (σ 2 w))) σ) : z_R layX iX0_weightOf 50 [some (.ref 11), some (.int (nI i)), some (.int (nI w)), some (.int t), v4] [] σ Φ := by
  refine z_aload_n (pc := 50) dX0_weightOf_50 rfl ?_
  refine z_getA (pc := 51) f_X0_42 dX0_weightOf_51 (by decide) rfl rfl ?_
  refine z_iload_n (pc := 54) dX0_weightOf_54 rfl ?_
  refine z_cV1 (pc := 55) mX5_get l_X0_85 (by decide) dX0_weightOf_55 (by decide) rfl rfl (by decide) (Nat.le_of_ble_eq_true rfl) (c_X5_get (by omega)) rfl (fun r55 σ55 hr55 => ?_)
  obtain ⟨rfl, rfl⟩ := hr55
  exact z_ireturn (pc := 58) dX0_weightOf_58 rfl rfl (hΦ)
set_option maxRecDepth 20000 in
theorem c_X0_wg0 {σ : z_Sto} {i w : Nat} {t : Int32} (hw : w < 3) (hq : x_wgt 11 2 i w t σ = σ 2 w) : z_R layX iX0_weightOf 23 [some (.ref 11), some (.int (nI i)), some (.int (nI w)), some (.int t), some (.int (nI 0))] [] σ (fun r σ' => r = some (.int (x_wgt 11 2 i w t σ)) ∧ σ' = σ) := by
  refine z_iload (pc := 23) dX0_weightOf_23 rfl ?_
  refine z_if_eq (pc := 25) (tgt := 50) dX0_weightOf_25 (by decide) (fun h25 => ?_) (fun h25 => ?_)
  · exact c_X0_wg2 hw ⟨by rw [hq], rfl⟩
  · exact absurd rfl h25
set_option maxRecDepth 20000 in
theorem c_X0_wg1 {σ : z_Sto} {i w : Nat} {t : Int32} (hi : i < 12) (hw : w < 3) (q1 : w = 0) (h13 : σ 4 i = nI 2) : z_R layX iX0_weightOf 23 [some (.ref 11), some (.int (nI i)), some (.int (nI w)), some (.int t), some (.int (nI 1))] [] σ (fun r σ' => r = some (.int (x_wgt 11 2 i w t σ)) ∧ σ' = σ) := by
  refine z_iload (pc := 23) dX0_weightOf_23 rfl ?_
  refine z_if_eq (pc := 25) (tgt := 50) dX0_weightOf_25 (by decide) (fun h25 => ?_) (fun h25 => ?_)
  · exact absurd h25 (by decide)
  · refine z_aload_n (pc := 28) dX0_weightOf_28 rfl ?_
    refine z_getA (pc := 29) f_X0_39 dX0_weightOf_29 (by decide) rfl rfl ?_
    refine z_iload_n (pc := 32) dX0_weightOf_32 rfl ?_
    refine z_ialdN (pc := 33) dX0_weightOf_33 (by decide) rfl (by decide) (hi) ?_
    refine z_iload_n (pc := 34) dX0_weightOf_34 rfl ?_
    refine z_aload_n (pc := 35) dX0_weightOf_35 rfl ?_
    refine z_getA (pc := 36) f_X0_42 dX0_weightOf_36 (by decide) rfl rfl ?_
    refine z_bipush (pc := 39) (v := (nI 7)) dX0_weightOf_39 (by decide) ?_
    refine z_cV1 (pc := 41) mX5_get l_X0_85 (by decide) dX0_weightOf_41 (by decide) rfl rfl (by decide) (Nat.le_of_ble_eq_true rfl) (c_X5_get (by decide)) rfl (fun r41 σ41 hr41 => ?_)
    obtain ⟨rfl, rfl⟩ := hr41
    refine z_isub (pc := 44) dX0_weightOf_44 ?_
    refine z_icmp_ge (pc := 45) (tgt := 50) dX0_weightOf_45 (by decide) (fun h45 => ?_) (fun h45 => ?_)
    · have hq : x_wgt 11 2 i w t σ41 = σ41 2 w := by rw [x_wgt, if_neg (fun g => z_nle g.2.2 h45)]
      exact c_X0_wg2 hw ⟨by rw [hq], rfl⟩
    · refine z_iconst (pc := 48) (v := (nI 0)) dX0_weightOf_48 (by decide) ?_
      exact z_ireturn (pc := 49) dX0_weightOf_49 rfl rfl (⟨by rw [x_wgt, if_pos ⟨q1, h13, by rw [← Int32.not_le]; exact h45⟩], rfl⟩)
set_option maxRecDepth 20000 in
theorem c_X0_weightOf {σ : z_Sto} {i w : Nat} {t : Int32} (hi : i < 12) (hw : w < 3) : z_R layX iX0_weightOf 0 [some (.ref 11), some (.int (nI i)), some (.int (nI w)), some (.int t), none] [] σ (fun r σ' => r = some (.int (x_wgt 11 2 i w t σ)) ∧ σ' = σ) := by
  refine z_iload_n (pc := 0) dX0_weightOf_0 rfl ?_
  refine z_if_ne (pc := 1) (tgt := 20) dX0_weightOf_1 (by decide) (fun h1 => ?_) (fun h1 => ?_)
  · have q1 : w ≠ 0 := fun q => h1 (by rw [q]; rfl)
    have hq : x_wgt 11 2 i w t σ = σ 2 w := by rw [x_wgt, if_neg (fun g => q1 g.1)]
    refine z_iconst (pc := 20) (v := (nI 0)) dX0_weightOf_20 (by decide) ?_
    refine z_istore (pc := 21) dX0_weightOf_21 (by decide) rfl rfl ?_
    exact by first | exact c_X0_wg0 hw hq | exact c_X0_wg1 hi hw q1 h13
  · have q1 : w = 0 := z_nI_inj (by omega) (by decide) h1
    refine z_aload_n (pc := 4) dX0_weightOf_4 rfl ?_
    refine z_getA (pc := 5) f_X0_46 dX0_weightOf_5 (by decide) rfl rfl ?_
    refine z_iload_n (pc := 8) dX0_weightOf_8 rfl ?_
    refine z_cV1 (pc := 9) mX4_kindOf l_X0_117 (by decide) dX0_weightOf_9 (by decide) rfl rfl (by decide) (Nat.le_of_ble_eq_true rfl) (c_X4_kindOf hi) rfl (fun r9 σ9 hr9 => ?_)
    obtain ⟨rfl, rfl⟩ := hr9
    refine z_iconst (pc := 12) (v := (nI 2)) dX0_weightOf_12 (by decide) ?_
    refine z_icmp_ne (pc := 13) (tgt := 20) dX0_weightOf_13 (by decide) (fun h13 => ?_) (fun h13 => ?_)
    · have hq : x_wgt 11 2 i w t σ9 = σ9 2 w := by rw [x_wgt, if_neg (fun g => h13 g.2.1)]
      refine z_iconst (pc := 20) (v := (nI 0)) dX0_weightOf_20 (by decide) ?_
      refine z_istore (pc := 21) dX0_weightOf_21 (by decide) rfl rfl ?_
      exact by first | exact c_X0_wg0 hw hq | exact c_X0_wg1 hi hw q1 h13
    · refine z_iconst (pc := 16) (v := (nI 1)) dX0_weightOf_16 (by decide) ?_
      refine z_goto (pc := 17) (tgt := 21) dX0_weightOf_17 (by decide) ?_
      refine z_istore (pc := 21) dX0_weightOf_21 (by decide) rfl rfl ?_
      exact by first | exact c_X0_wg0 hw hq | exact c_X0_wg1 hi hw q1 h13
set_option maxRecDepth 20000 in
theorem c_X0_lkl {σ : z_Sto} {s n i : Nat} {v3 : Option Value} (hs : s < 16) (hn : σ 3 3 = nI n) (h12 : n ≤ 12) (hi : i ≤ 12) : z_R layX iX0_lookAt 6 [some (.ref 11), some (.int (nI s)), some (.int (nI i)), v3] [] σ (fun r σ' => r = none ∧ σ' = x_lk 11 s (x_end s n - i) i σ) := by
  have he : x_end s n ≤ 12 := by unfold x_end; split <;> (try split) <;> omega
  generalize hf : x_end s n - i = f
  induction f using Nat.strongRecOn generalizing i σ v3
  rename_i f ih
  refine z_iload_n (pc := 6) dX0_lookAt_6 rfl ?_
  refine z_aload_n (pc := 7) dX0_lookAt_7 rfl ?_
  refine z_iload_n (pc := 8) dX0_lookAt_8 rfl ?_
  refine z_cV1 (pc := 9) mX0_endOf l_X0_106 (by decide) dX0_lookAt_9 (by decide) rfl rfl (by decide) (Nat.le_of_ble_eq_true rfl) (c_X0_endOf hs hn h12) rfl (fun r9 σ9 hr9 => ?_)
  obtain ⟨rfl, rfl⟩ := hr9
  refine z_icmp_ge (pc := 12) (tgt := 84) dX0_lookAt_12 (by decide) (fun h12 => ?_) (fun h12 => ?_)
  · have q12 : f = 0 := by have := (nI_leI (by omega) (by omega)).mp h12; omega
    exact z_return (pc := 84) dX0_lookAt_84 rfl (⟨rfl, by rw [q12]; rfl⟩)
  · have q12 : i < x_end s n := by have : ¬ x_end s n ≤ i := fun q => h12 ((nI_leI (by omega) (by omega)).mpr q); omega
    have hf1 : f = (x_end s n - (i + 1)) + 1 := by omega
    refine z_aload_n (pc := 15) dX0_lookAt_15 rfl ?_
    refine z_getA (pc := 16) f_X0_27 dX0_lookAt_16 (by decide) rfl rfl ?_
    refine z_iload_n (pc := 19) dX0_lookAt_19 rfl ?_
    refine z_zaldN (pc := 20) dX0_lookAt_20 (by decide) rfl (by decide) (by omega) ?_
    refine z_if_eq (pc := 21) (tgt := 37) dX0_lookAt_21 (by decide) (fun h21 => ?_) (fun h21 => ?_)
    · have hsn : x_sn 11 s i σ9 = nI 0 := by rw [x_sn, if_pos h21]
      refine z_iconst (pc := 37) (v := (nI 0)) dX0_lookAt_37 (by decide) ?_
      refine z_istore_n (pc := 38) dX0_lookAt_38 (by decide) rfl rfl ?_
      refine z_aload_n (pc := 39) dX0_lookAt_39 rfl ?_
      refine z_getA (pc := 40) f_X0_46 dX0_lookAt_40 (by decide) rfl rfl ?_
      refine z_iload_n (pc := 43) dX0_lookAt_43 rfl ?_
      refine z_cV1 (pc := 44) mX4_slotOf l_X0_62 (by decide) dX0_lookAt_44 (by decide) rfl rfl (by decide) (Nat.le_of_ble_eq_true rfl) (c_X4_slotOf (by omega)) rfl (fun r44 σ44 hr44 => ?_)
      obtain ⟨rfl, rfl⟩ := hr44
      refine z_iload_n (pc := 47) dX0_lookAt_47 rfl ?_
      refine z_icmp_ne (pc := 48) (tgt := 78) dX0_lookAt_48 (by decide) (fun h48 => ?_) (fun h48 => ?_)
      · have hq : x_l1 11 s i σ44 = σ44 := by rw [x_l1, if_neg (fun g => h48 g.1)]
        refine z_iincN (pc := 78) dX0_lookAt_78 rfl (by decide) rfl rfl ?_
        refine z_goto (pc := 81) (tgt := 6) dX0_lookAt_81 (by decide) ?_
        exact (ih _ (by omega) (i := i + 1) (by first | exact hn | (simp only [z_up_at, reduceIte, Nat.reduceEqDiff]; exact hn)) (by omega) rfl).mono (fun r σ' g => ⟨g.1, g.2.trans (by rw [hf1, x_lk, hq] <;> rfl)⟩)
      · refine z_iload_n (pc := 51) dX0_lookAt_51 rfl ?_
        refine z_aload_n (pc := 52) dX0_lookAt_52 rfl ?_
        refine z_getA (pc := 53) f_X0_30 dX0_lookAt_53 (by decide) rfl rfl ?_
        refine z_iload_n (pc := 56) dX0_lookAt_56 rfl ?_
        refine z_zaldN (pc := 57) dX0_lookAt_57 (by decide) rfl (by decide) (by omega) ?_
        refine z_icmp_eq (pc := 58) (tgt := 78) dX0_lookAt_58 (by decide) (fun h58 => ?_) (fun h58 => ?_)
        · have hq : x_l1 11 s i σ44 = σ44 := by rw [x_l1, if_neg (fun g => g.2 (hsn.trans h58))]
          refine z_iincN (pc := 78) dX0_lookAt_78 rfl (by decide) rfl rfl ?_
          refine z_goto (pc := 81) (tgt := 6) dX0_lookAt_81 (by decide) ?_
          exact (ih _ (by omega) (i := i + 1) (by first | exact hn | (simp only [z_up_at, reduceIte, Nat.reduceEqDiff]; exact hn)) (by omega) rfl).mono (fun r σ' g => ⟨g.1, g.2.trans (by rw [hf1, x_lk, hq] <;> rfl)⟩)
        · have hq : x_l1 11 s i σ44 = z_up (z_up σ44 (11 + 6) i (x_sn 11 s i σ44)) (11 + 7) i (σ44 (11 + 7) i + nI 1) := by rw [x_l1, if_pos ⟨h48, fun g => h58 (hsn.symm.trans g)⟩]
          rw [hsn] at hq
          refine z_aload_n (pc := 61) dX0_lookAt_61 rfl ?_
          refine z_getA (pc := 62) f_X0_30 dX0_lookAt_62 (by decide) rfl rfl ?_
          refine z_iload_n (pc := 65) dX0_lookAt_65 rfl ?_
          refine z_iload_n (pc := 66) dX0_lookAt_66 rfl ?_
          refine z_zastN (pc := 67) dX0_lookAt_67 (by decide) rfl (by decide) (by omega) (by first | exact Or.inl rfl | exact Or.inr rfl) ?_
          refine z_aload_n (pc := 68) dX0_lookAt_68 rfl ?_
          refine z_getA (pc := 69) f_X0_33 dX0_lookAt_69 (by decide) rfl rfl ?_
          refine z_iload_n (pc := 72) dX0_lookAt_72 rfl ?_
          refine z_dup2 (pc := 73) dX0_lookAt_73 ?_
          refine z_ialdN (pc := 74) dX0_lookAt_74 (by decide) rfl (by decide) (by omega) ?_
          refine z_iconst (pc := 75) (v := (nI 1)) dX0_lookAt_75 (by decide) ?_
          refine z_iadd (pc := 76) dX0_lookAt_76 ?_
          refine z_iastN (pc := 77) dX0_lookAt_77 (by decide) rfl (by decide) (by omega) ?_
          refine z_iincN (pc := 78) dX0_lookAt_78 rfl (by decide) rfl rfl ?_
          refine z_goto (pc := 81) (tgt := 6) dX0_lookAt_81 (by decide) ?_
          exact (ih _ (by omega) (i := i + 1) (by first | exact hn | (simp only [z_up_at, reduceIte, Nat.reduceEqDiff]; exact hn)) (by omega) rfl).mono (fun r σ' g => ⟨g.1, g.2.trans (by rw [hf1, x_lk, hq] <;> rfl)⟩)
    · refine z_aload_n (pc := 24) dX0_lookAt_24 rfl ?_
      refine z_getA (pc := 25) f_X0_23 dX0_lookAt_25 (by decide) rfl rfl ?_
      refine z_iload_n (pc := 28) dX0_lookAt_28 rfl ?_
      refine z_zaldN (pc := 29) dX0_lookAt_29 (by decide) rfl (by decide) (hs) ?_
      refine z_if_ne (pc := 30) (tgt := 37) dX0_lookAt_30 (by decide) (fun h30 => ?_) (fun h30 => ?_)
      · have hsn : x_sn 11 s i σ9 = nI 0 := by rw [x_sn, if_neg h21, if_neg h30]
        refine z_iconst (pc := 37) (v := (nI 0)) dX0_lookAt_37 (by decide) ?_
        refine z_istore_n (pc := 38) dX0_lookAt_38 (by decide) rfl rfl ?_
        refine z_aload_n (pc := 39) dX0_lookAt_39 rfl ?_
        refine z_getA (pc := 40) f_X0_46 dX0_lookAt_40 (by decide) rfl rfl ?_
        refine z_iload_n (pc := 43) dX0_lookAt_43 rfl ?_
        refine z_cV1 (pc := 44) mX4_slotOf l_X0_62 (by decide) dX0_lookAt_44 (by decide) rfl rfl (by decide) (Nat.le_of_ble_eq_true rfl) (c_X4_slotOf (by omega)) rfl (fun r44 σ44 hr44 => ?_)
        obtain ⟨rfl, rfl⟩ := hr44
        refine z_iload_n (pc := 47) dX0_lookAt_47 rfl ?_
        refine z_icmp_ne (pc := 48) (tgt := 78) dX0_lookAt_48 (by decide) (fun h48 => ?_) (fun h48 => ?_)
        · have hq : x_l1 11 s i σ44 = σ44 := by rw [x_l1, if_neg (fun g => h48 g.1)]
          refine z_iincN (pc := 78) dX0_lookAt_78 rfl (by decide) rfl rfl ?_
          refine z_goto (pc := 81) (tgt := 6) dX0_lookAt_81 (by decide) ?_
          exact (ih _ (by omega) (i := i + 1) (by first | exact hn | (simp only [z_up_at, reduceIte, Nat.reduceEqDiff]; exact hn)) (by omega) rfl).mono (fun r σ' g => ⟨g.1, g.2.trans (by rw [hf1, x_lk, hq] <;> rfl)⟩)
        · refine z_iload_n (pc := 51) dX0_lookAt_51 rfl ?_
          refine z_aload_n (pc := 52) dX0_lookAt_52 rfl ?_
          refine z_getA (pc := 53) f_X0_30 dX0_lookAt_53 (by decide) rfl rfl ?_
          refine z_iload_n (pc := 56) dX0_lookAt_56 rfl ?_
          refine z_zaldN (pc := 57) dX0_lookAt_57 (by decide) rfl (by decide) (by omega) ?_
          refine z_icmp_eq (pc := 58) (tgt := 78) dX0_lookAt_58 (by decide) (fun h58 => ?_) (fun h58 => ?_)
          · have hq : x_l1 11 s i σ44 = σ44 := by rw [x_l1, if_neg (fun g => g.2 (hsn.trans h58))]
            refine z_iincN (pc := 78) dX0_lookAt_78 rfl (by decide) rfl rfl ?_
            refine z_goto (pc := 81) (tgt := 6) dX0_lookAt_81 (by decide) ?_
            exact (ih _ (by omega) (i := i + 1) (by first | exact hn | (simp only [z_up_at, reduceIte, Nat.reduceEqDiff]; exact hn)) (by omega) rfl).mono (fun r σ' g => ⟨g.1, g.2.trans (by rw [hf1, x_lk, hq] <;> rfl)⟩)
          · have hq : x_l1 11 s i σ44 = z_up (z_up σ44 (11 + 6) i (x_sn 11 s i σ44)) (11 + 7) i (σ44 (11 + 7) i + nI 1) := by rw [x_l1, if_pos ⟨h48, fun g => h58 (hsn.symm.trans g)⟩]
            rw [hsn] at hq
            refine z_aload_n (pc := 61) dX0_lookAt_61 rfl ?_
            refine z_getA (pc := 62) f_X0_30 dX0_lookAt_62 (by decide) rfl rfl ?_
            refine z_iload_n (pc := 65) dX0_lookAt_65 rfl ?_
            refine z_iload_n (pc := 66) dX0_lookAt_66 rfl ?_
            refine z_zastN (pc := 67) dX0_lookAt_67 (by decide) rfl (by decide) (by omega) (by first | exact Or.inl rfl | exact Or.inr rfl) ?_
            refine z_aload_n (pc := 68) dX0_lookAt_68 rfl ?_
            refine z_getA (pc := 69) f_X0_33 dX0_lookAt_69 (by decide) rfl rfl ?_
            refine z_iload_n (pc := 72) dX0_lookAt_72 rfl ?_
            refine z_dup2 (pc := 73) dX0_lookAt_73 ?_
            refine z_ialdN (pc := 74) dX0_lookAt_74 (by decide) rfl (by decide) (by omega) ?_
            refine z_iconst (pc := 75) (v := (nI 1)) dX0_lookAt_75 (by decide) ?_
            refine z_iadd (pc := 76) dX0_lookAt_76 ?_
            refine z_iastN (pc := 77) dX0_lookAt_77 (by decide) rfl (by decide) (by omega) ?_
            refine z_iincN (pc := 78) dX0_lookAt_78 rfl (by decide) rfl rfl ?_
            refine z_goto (pc := 81) (tgt := 6) dX0_lookAt_81 (by decide) ?_
            exact (ih _ (by omega) (i := i + 1) (by first | exact hn | (simp only [z_up_at, reduceIte, Nat.reduceEqDiff]; exact hn)) (by omega) rfl).mono (fun r σ' g => ⟨g.1, g.2.trans (by rw [hf1, x_lk, hq] <;> rfl)⟩)
      · have hsn : x_sn 11 s i σ9 = nI 1 := by rw [x_sn, if_neg h21, if_pos h30]
        refine z_iconst (pc := 33) (v := (nI 1)) dX0_lookAt_33 (by decide) ?_
        refine z_goto (pc := 34) (tgt := 38) dX0_lookAt_34 (by decide) ?_
        refine z_istore_n (pc := 38) dX0_lookAt_38 (by decide) rfl rfl ?_
        refine z_aload_n (pc := 39) dX0_lookAt_39 rfl ?_
        refine z_getA (pc := 40) f_X0_46 dX0_lookAt_40 (by decide) rfl rfl ?_
        refine z_iload_n (pc := 43) dX0_lookAt_43 rfl ?_
        refine z_cV1 (pc := 44) mX4_slotOf l_X0_62 (by decide) dX0_lookAt_44 (by decide) rfl rfl (by decide) (Nat.le_of_ble_eq_true rfl) (c_X4_slotOf (by omega)) rfl (fun r44 σ44 hr44 => ?_)
        obtain ⟨rfl, rfl⟩ := hr44
        refine z_iload_n (pc := 47) dX0_lookAt_47 rfl ?_
        refine z_icmp_ne (pc := 48) (tgt := 78) dX0_lookAt_48 (by decide) (fun h48 => ?_) (fun h48 => ?_)
        · have hq : x_l1 11 s i σ44 = σ44 := by rw [x_l1, if_neg (fun g => h48 g.1)]
          refine z_iincN (pc := 78) dX0_lookAt_78 rfl (by decide) rfl rfl ?_
          refine z_goto (pc := 81) (tgt := 6) dX0_lookAt_81 (by decide) ?_
          exact (ih _ (by omega) (i := i + 1) (by first | exact hn | (simp only [z_up_at, reduceIte, Nat.reduceEqDiff]; exact hn)) (by omega) rfl).mono (fun r σ' g => ⟨g.1, g.2.trans (by rw [hf1, x_lk, hq] <;> rfl)⟩)
        · refine z_iload_n (pc := 51) dX0_lookAt_51 rfl ?_
          refine z_aload_n (pc := 52) dX0_lookAt_52 rfl ?_
          refine z_getA (pc := 53) f_X0_30 dX0_lookAt_53 (by decide) rfl rfl ?_
          refine z_iload_n (pc := 56) dX0_lookAt_56 rfl ?_
          refine z_zaldN (pc := 57) dX0_lookAt_57 (by decide) rfl (by decide) (by omega) ?_
          refine z_icmp_eq (pc := 58) (tgt := 78) dX0_lookAt_58 (by decide) (fun h58 => ?_) (fun h58 => ?_)
          · have hq : x_l1 11 s i σ44 = σ44 := by rw [x_l1, if_neg (fun g => g.2 (hsn.trans h58))]
            refine z_iincN (pc := 78) dX0_lookAt_78 rfl (by decide) rfl rfl ?_
            refine z_goto (pc := 81) (tgt := 6) dX0_lookAt_81 (by decide) ?_
            exact (ih _ (by omega) (i := i + 1) (by first | exact hn | (simp only [z_up_at, reduceIte, Nat.reduceEqDiff]; exact hn)) (by omega) rfl).mono (fun r σ' g => ⟨g.1, g.2.trans (by rw [hf1, x_lk, hq] <;> rfl)⟩)
          · have hq : x_l1 11 s i σ44 = z_up (z_up σ44 (11 + 6) i (x_sn 11 s i σ44)) (11 + 7) i (σ44 (11 + 7) i + nI 1) := by rw [x_l1, if_pos ⟨h48, fun g => h58 (hsn.symm.trans g)⟩]
            rw [hsn] at hq
            refine z_aload_n (pc := 61) dX0_lookAt_61 rfl ?_
            refine z_getA (pc := 62) f_X0_30 dX0_lookAt_62 (by decide) rfl rfl ?_
            refine z_iload_n (pc := 65) dX0_lookAt_65 rfl ?_
            refine z_iload_n (pc := 66) dX0_lookAt_66 rfl ?_
            refine z_zastN (pc := 67) dX0_lookAt_67 (by decide) rfl (by decide) (by omega) (by first | exact Or.inl rfl | exact Or.inr rfl) ?_
            refine z_aload_n (pc := 68) dX0_lookAt_68 rfl ?_
            refine z_getA (pc := 69) f_X0_33 dX0_lookAt_69 (by decide) rfl rfl ?_
            refine z_iload_n (pc := 72) dX0_lookAt_72 rfl ?_
            refine z_dup2 (pc := 73) dX0_lookAt_73 ?_
            refine z_ialdN (pc := 74) dX0_lookAt_74 (by decide) rfl (by decide) (by omega) ?_
            refine z_iconst (pc := 75) (v := (nI 1)) dX0_lookAt_75 (by decide) ?_
            refine z_iadd (pc := 76) dX0_lookAt_76 ?_
            refine z_iastN (pc := 77) dX0_lookAt_77 (by decide) rfl (by decide) (by omega) ?_
            refine z_iincN (pc := 78) dX0_lookAt_78 rfl (by decide) rfl rfl ?_
            refine z_goto (pc := 81) (tgt := 6) dX0_lookAt_81 (by decide) ?_
            exact (ih _ (by omega) (i := i + 1) (by first | exact hn | (simp only [z_up_at, reduceIte, Nat.reduceEqDiff]; exact hn)) (by omega) rfl).mono (fun r σ' g => ⟨g.1, g.2.trans (by rw [hf1, x_lk, hq] <;> rfl)⟩)
set_option maxRecDepth 20000 in
theorem c_X0_lookAt {σ : z_Sto} {s n : Nat} (hs : s < 16) (hn : σ 3 3 = nI n) (h12 : n ≤ 12) : z_R layX iX0_lookAt 0 [some (.ref 11), some (.int (nI s)), none, none] [] σ (fun r σ' => r = none ∧ σ' = x_look 11 s n σ) := by
  refine z_aload_n (pc := 0) dX0_lookAt_0 rfl ?_
  refine z_iload_n (pc := 1) dX0_lookAt_1 rfl ?_
  refine z_cV1 (pc := 2) mX0_firstOf l_X0_103 (by decide) dX0_lookAt_2 (by decide) rfl rfl (by decide) (Nat.le_of_ble_eq_true rfl) (c_X0_firstOf hs) rfl (fun r2 σ2 hr2 => ?_)
  obtain ⟨rfl, rfl⟩ := hr2
  refine z_istore_n (pc := 5) dX0_lookAt_5 (by decide) rfl rfl ?_
  exact c_X0_lkl hs hn h12 (by unfold x_fst; split <;> omega)
/-! the board at cell 24, its rules' numbers at 23 -/
set_option maxRecDepth 20000 in
theorem c_X0_isUp2 {σ : z_Sto} {i : Nat} (hi : i < 12) (h01 : σ 29 i = nI 0 ∨ σ 29 i = nI 1) : z_R layX iX0_isUp 0 [some (.ref 24), some (.int (nI i))] [] σ (fun r σ' => r = some (.int (σ 29 i)) ∧ σ' = σ) := by
  refine z_aload_n (pc := 0) dX0_isUp_0 rfl ?_
  refine z_getA (pc := 1) f_X0_27 dX0_isUp_1 (by decide) rfl rfl ?_
  refine z_iload_n (pc := 4) dX0_isUp_4 rfl ?_
  refine z_zaldN (pc := 5) dX0_isUp_5 (by decide) rfl (by decide) (hi) ?_
  exact z_ireturn (pc := 6) dX0_isUp_6 rfl (z_nar h01) (⟨rfl, rfl⟩)
set_option maxRecDepth 20000 in
theorem c_X0_isShut2 {σ : z_Sto} {i s : Nat} (hi : i < 12) (hsl : σ 5 i = nI s) (hs : s < 16) (h01 : σ 28 s = nI 0 ∨ σ 28 s = nI 1) : z_R layX iX0_isShut 0 [some (.ref 24), some (.int (nI i))] [] σ (fun r σ' => r = some (.int (σ 28 s)) ∧ σ' = σ) := by
  refine z_aload_n (pc := 0) dX0_isShut_0 rfl ?_
  refine z_getA (pc := 1) f_X0_23 dX0_isShut_1 (by decide) rfl rfl ?_
  refine z_aload_n (pc := 4) dX0_isShut_4 rfl ?_
  refine z_getA (pc := 5) f_X0_46 dX0_isShut_5 (by decide) rfl rfl ?_
  refine z_iload_n (pc := 8) dX0_isShut_8 rfl ?_
  refine z_cV1 (pc := 9) mX4_slotOf l_X0_62 (by decide) dX0_isShut_9 (by decide) rfl rfl (by decide) (Nat.le_of_ble_eq_true rfl) (c_X4_slotOf hi) rfl (fun r9 σ9 hr9 => ?_)
  obtain ⟨rfl, rfl⟩ := hr9
  rw [hsl]
  refine z_zaldN (pc := 12) dX0_isShut_12 (by decide) rfl (by decide) (hs) ?_
  exact z_ireturn (pc := 13) dX0_isShut_13 rfl (z_nar h01) (⟨rfl, rfl⟩)
set_option maxRecDepth 20000 in
theorem c_X0_isSeen2 {σ : z_Sto} {i s : Nat} (hi : i < 12) (hsl : σ 5 i = nI s) (hs : s < 16) (h01 : σ 28 s = nI 0 ∨ σ 28 s = nI 1) : z_R layX iX0_isSeen 0 [some (.ref 24), some (.int (nI i))] [] σ (fun r σ' => r = some (.int (x_sn 24 s i σ)) ∧ σ' = σ) := by
  refine z_aload_n (pc := 0) dX0_isSeen_0 rfl ?_
  refine z_getA (pc := 1) f_X0_27 dX0_isSeen_1 (by decide) rfl rfl ?_
  refine z_iload_n (pc := 4) dX0_isSeen_4 rfl ?_
  refine z_zaldN (pc := 5) dX0_isSeen_5 (by decide) rfl (by decide) (hi) ?_
  refine z_if_eq (pc := 6) (tgt := 21) dX0_isSeen_6 (by decide) (fun h6 => ?_) (fun h6 => ?_)
  · refine z_iconst (pc := 21) (v := (nI 0)) dX0_isSeen_21 (by decide) ?_
    exact z_ireturn (pc := 22) dX0_isSeen_22 rfl (by decide) (⟨by first | rw [x_sn, if_pos h6] | rw [x_sn, if_neg h6, if_neg h14] | rw [x_sn, if_neg h6, if_pos h14], rfl⟩)
  · refine z_aload_n (pc := 9) dX0_isSeen_9 rfl ?_
    refine z_iload_n (pc := 10) dX0_isSeen_10 rfl ?_
    refine z_cV1 (pc := 11) mX0_isShut l_X0_66 (by decide) dX0_isSeen_11 (by decide) rfl rfl (by decide) (Nat.le_of_ble_eq_true rfl) (c_X0_isShut2 hi hsl hs h01) rfl (fun r11 σ11 hr11 => ?_)
    obtain ⟨rfl, rfl⟩ := hr11
    refine z_if_ne (pc := 14) (tgt := 21) dX0_isSeen_14 (by decide) (fun h14 => ?_) (fun h14 => ?_)
    · refine z_iconst (pc := 21) (v := (nI 0)) dX0_isSeen_21 (by decide) ?_
      exact z_ireturn (pc := 22) dX0_isSeen_22 rfl (by decide) (⟨by first | rw [x_sn, if_pos h6] | rw [x_sn, if_neg h6, if_neg h14] | rw [x_sn, if_neg h6, if_pos h14], rfl⟩)
    · refine z_iconst (pc := 17) (v := (nI 1)) dX0_isSeen_17 (by decide) ?_
      refine z_goto (pc := 18) (tgt := 22) dX0_isSeen_18 (by decide) ?_
      exact z_ireturn (pc := 22) dX0_isSeen_22 rfl (by decide) (⟨by first | rw [x_sn, if_pos h6] | rw [x_sn, if_neg h6, if_neg h14] | rw [x_sn, if_neg h6, if_pos h14], rfl⟩)
set_option maxRecDepth 20000 in
theorem c_X0_join2 {σ : z_Sto} {i s : Nat} (hi : i < 12) (hsl : σ 5 i = nI s) (hs : s < 16) (h01 : σ 28 s = nI 0 ∨ σ 28 s = nI 1) : z_R layX iX0_join 0 [some (.ref 24), some (.int (nI i))] [] σ (fun r σ' => r = none ∧ σ' = z_up σ 30 i (x_sn 24 s i σ)) := by
  refine z_aload_n (pc := 0) dX0_join_0 rfl ?_
  refine z_getA (pc := 1) f_X0_30 dX0_join_1 (by decide) rfl rfl ?_
  refine z_iload_n (pc := 4) dX0_join_4 rfl ?_
  refine z_aload_n (pc := 5) dX0_join_5 rfl ?_
  refine z_iload_n (pc := 6) dX0_join_6 rfl ?_
  refine z_cV1 (pc := 7) mX0_isSeen l_X0_58 (by decide) dX0_join_7 (by decide) rfl rfl (by decide) (Nat.le_of_ble_eq_true rfl) (c_X0_isSeen2 hi hsl hs h01) rfl (fun r7 σ7 hr7 => ?_)
  obtain ⟨rfl, rfl⟩ := hr7
  refine z_zastN (pc := 10) dX0_join_10 (by decide) rfl (by decide) (hi) (by unfold x_sn; split; exact Or.inl rfl; split; exact Or.inr rfl; exact Or.inl rfl) ?_
  exact z_return (pc := 11) dX0_join_11 rfl (⟨rfl, rfl⟩)
set_option maxRecDepth 20000 in
theorem c_X0_flipsOf2 {σ : z_Sto} {i : Nat} (hi : i < 12) : z_R layX iX0_flipsOf 0 [some (.ref 24), some (.int (nI i))] [] σ (fun r σ' => r = some (.int (σ 31 i)) ∧ σ' = σ) := by
  refine z_aload_n (pc := 0) dX0_flipsOf_0 rfl ?_
  refine z_getA (pc := 1) f_X0_33 dX0_flipsOf_1 (by decide) rfl rfl ?_
  refine z_iload_n (pc := 4) dX0_flipsOf_4 rfl ?_
  refine z_ialdN (pc := 5) dX0_flipsOf_5 (by decide) rfl (by decide) (hi) ?_
  exact z_ireturn (pc := 6) dX0_flipsOf_6 rfl rfl (⟨rfl, rfl⟩)
set_option maxRecDepth 20000 in
theorem c_X0_lostOf2 {σ : z_Sto} {i : Nat} (hi : i < 12) : z_R layX iX0_lostOf 0 [some (.ref 24), some (.int (nI i))] [] σ (fun r σ' => r = some (.int (σ 32 i)) ∧ σ' = σ) := by
  refine z_aload_n (pc := 0) dX0_lostOf_0 rfl ?_
  refine z_getA (pc := 1) f_X0_36 dX0_lostOf_1 (by decide) rfl rfl ?_
  refine z_iload_n (pc := 4) dX0_lostOf_4 rfl ?_
  refine z_ialdN (pc := 5) dX0_lostOf_5 (by decide) rfl (by decide) (hi) ?_
  exact z_ireturn (pc := 6) dX0_lostOf_6 rfl rfl (⟨rfl, rfl⟩)
set_option maxRecDepth 20000 in
theorem c_X0_wasEverShut2 {σ : z_Sto} (h01 : σ 24 11 = nI 0 ∨ σ 24 11 = nI 1) : z_R layX iX0_wasEverShut 0 [some (.ref 24)] [] σ (fun r σ' => r = some (.int (σ 24 11)) ∧ σ' = σ) := by
  refine z_aload_n (pc := 0) dX0_wasEverShut_0 rfl ?_
  refine z_getI (pc := 1) f_X0_53 dX0_wasEverShut_1 (by decide) rfl rfl ?_
  exact z_ireturn (pc := 4) dX0_wasEverShut_4 rfl (z_nar h01) (⟨rfl, rfl⟩)
set_option maxRecDepth 20000 in
theorem c_X0_firstOf2 {σ : z_Sto} {s : Nat} (hs : s < 16) : z_R layX iX0_firstOf 0 [some (.ref 24), some (.int (nI s))] [] σ (fun r σ' => r = some (.int (nI (x_fst s))) ∧ σ' = σ) := by
  refine z_iload_n (pc := 0) dX0_firstOf_0 rfl ?_
  refine z_bipush (pc := 1) (v := (nI 12)) dX0_firstOf_1 (by decide) ?_
  refine z_icmp_ge (pc := 3) (tgt := 10) dX0_firstOf_3 (by decide) (fun h3 => ?_) (fun h3 => ?_)
  · have q3 : ¬ s < 12 := fun q => absurd ((nI_leI (by decide) (by omega)).mp h3) (by omega)
    refine z_iconst (pc := 10) (v := (nI 0)) dX0_firstOf_10 (by decide) ?_
    exact z_ireturn (pc := 11) dX0_firstOf_11 rfl rfl (⟨by simp [x_fst, q3], rfl⟩)
  · have q3 : s < 12 := by have : ¬ 12 ≤ s := fun q => h3 ((nI_leI (by decide) (by omega)).mpr q); omega
    refine z_iload_n (pc := 6) dX0_firstOf_6 rfl ?_
    refine z_goto (pc := 7) (tgt := 11) dX0_firstOf_7 (by decide) ?_
    exact z_ireturn (pc := 11) dX0_firstOf_11 rfl rfl (⟨by simp [x_fst, q3], rfl⟩)
set_option maxRecDepth 20000 in
theorem c_X0_endOf2 {σ : z_Sto} {s n : Nat} (hs : s < 16) (hn : σ 3 3 = nI n) (h12 : n ≤ 12) : z_R layX iX0_endOf 0 [some (.ref 24), some (.int (nI s))] [] σ (fun r σ' => r = some (.int (nI (x_end s n))) ∧ σ' = σ) := by
  refine z_aload_n (pc := 0) dX0_endOf_0 rfl ?_
  refine z_getA (pc := 1) f_X0_46 dX0_endOf_1 (by decide) rfl rfl ?_
  refine z_cV0 (pc := 4) mX4_size l_X0_69 (by decide) dX0_endOf_4 (by decide) rfl rfl (by decide) (Nat.le_of_ble_eq_true rfl) (c_X4_size) rfl (fun r4 σ4 hr4 => ?_)
  obtain ⟨rfl, rfl⟩ := hr4
  rw [hn]
  refine z_iload_n (pc := 7) dX0_endOf_7 rfl ?_
  refine z_bipush (pc := 8) (v := (nI 12)) dX0_endOf_8 (by decide) ?_
  refine z_icmp_ge (pc := 10) (tgt := 19) dX0_endOf_10 (by decide) (fun h10 => ?_) (fun h10 => ?_)
  · have q10 : ¬ s < 12 := fun q => absurd ((nI_leI (by decide) (by omega)).mp h10) (by omega)
    refine z_bipush (pc := 19) (v := (nI 12)) dX0_endOf_19 (by decide) ?_
    refine z_min (pc := 21) l_X0_100 (by decide) (Nat.le_of_ble_eq_true rfl) dX0_endOf_21 ?_
    exact z_ireturn (pc := 24) dX0_endOf_24 rfl rfl (⟨by simp only [x_end, q10, if_true, if_false, nI_ltI (show s + 1 < 2 ^ 31 by omega) (show n < 2 ^ 31 by omega), nI_ltI (show 12 < 2 ^ 31 by omega) (show n < 2 ^ 31 by omega)]; (try rw [if_neg (show ¬ 12 < n by omega)]); (try split <;> rfl), rfl⟩)
  · have q10 : s < 12 := by have : ¬ 12 ≤ s := fun q => h10 ((nI_leI (by decide) (by omega)).mpr q); omega
    refine z_iload_n (pc := 13) dX0_endOf_13 rfl ?_
    refine z_iconst (pc := 14) (v := (nI 1)) dX0_endOf_14 (by decide) ?_
    refine z_iaddN (pc := 15) dX0_endOf_15 ?_
    refine z_goto (pc := 16) (tgt := 21) dX0_endOf_16 (by decide) ?_
    refine z_min (pc := 21) l_X0_100 (by decide) (Nat.le_of_ble_eq_true rfl) dX0_endOf_21 ?_
    exact z_ireturn (pc := 24) dX0_endOf_24 rfl rfl (⟨by simp only [x_end, q10, if_true, if_false, nI_ltI (show s + 1 < 2 ^ 31 by omega) (show n < 2 ^ 31 by omega), nI_ltI (show 12 < 2 ^ 31 by omega) (show n < 2 ^ 31 by omega)]; (try rw [if_neg (show ¬ 12 < n by omega)]); (try split <;> rfl), rfl⟩)
set_option maxRecDepth 20000 in
theorem c_X0_penaltyAt2 {σ : z_Sto} {s h : Nat} {t : Int32} (hs : s < 16) (hh : σ 23 3 = nI h) (h1 : 1 ≤ h) (h2 : h ≤ 500) : z_R layX iX0_penaltyAt 0 [some (.ref 24), some (.int (nI s)), some (.int t)] [] σ (fun r σ' => r = some (.int (x_pen 24 23 s t σ)) ∧ σ' = σ) := by
  refine z_aload_n (pc := 0) dX0_penaltyAt_0 rfl ?_
  refine z_getA (pc := 1) f_X0_42 dX0_penaltyAt_1 (by decide) rfl rfl ?_
  refine z_aload_n (pc := 4) dX0_penaltyAt_4 rfl ?_
  refine z_getA (pc := 5) f_X0_11 dX0_penaltyAt_5 (by decide) rfl rfl ?_
  refine z_iload_n (pc := 8) dX0_penaltyAt_8 rfl ?_
  refine z_ialdN (pc := 9) dX0_penaltyAt_9 (by decide) rfl (by decide) (hs) ?_
  refine z_iload_n (pc := 10) dX0_penaltyAt_10 rfl ?_
  refine z_aload_n (pc := 11) dX0_penaltyAt_11 rfl ?_
  refine z_getA (pc := 12) f_X0_17 dX0_penaltyAt_12 (by decide) rfl rfl ?_
  refine z_iload_n (pc := 15) dX0_penaltyAt_15 rfl ?_
  refine z_ialdN (pc := 16) dX0_penaltyAt_16 (by decide) rfl (by decide) (hs) ?_
  refine z_isub (pc := 17) dX0_penaltyAt_17 ?_
  refine z_cV2 (pc := 18) mX5_fade l_X0_77 (by decide) dX0_penaltyAt_18 (by decide) rfl rfl (by decide) (Nat.le_of_ble_eq_true rfl) (c_X5_fadeT hh h1 h2) rfl (fun r18 σ18 hr18 => ?_)
  obtain ⟨rfl, rfl⟩ := hr18
  exact z_ireturn (pc := 21) dX0_penaltyAt_21 rfl rfl (⟨by rw [x_pen, hh], rfl⟩)
set_option maxRecDepth 20000 in
theorem c_X0_penaltyOf2 {σ : z_Sto} {i s h : Nat} {t : Int32} (hi : i < 12) (hsl : σ 5 i = nI s) (hs : s < 16) (hh : σ 23 3 = nI h) (h1 : 1 ≤ h) (h2 : h ≤ 500) : z_R layX iX0_penaltyOf 0 [some (.ref 24), some (.int (nI i)), some (.int t)] [] σ (fun r σ' => r = some (.int (x_pen 24 23 s t σ)) ∧ σ' = σ) := by
  refine z_aload_n (pc := 0) dX0_penaltyOf_0 rfl ?_
  refine z_aload_n (pc := 1) dX0_penaltyOf_1 rfl ?_
  refine z_getA (pc := 2) f_X0_46 dX0_penaltyOf_2 (by decide) rfl rfl ?_
  refine z_iload_n (pc := 5) dX0_penaltyOf_5 rfl ?_
  refine z_cV1 (pc := 6) mX4_slotOf l_X0_62 (by decide) dX0_penaltyOf_6 (by decide) rfl rfl (by decide) (Nat.le_of_ble_eq_true rfl) (c_X4_slotOf hi) rfl (fun r6 σ6 hr6 => ?_)
  obtain ⟨rfl, rfl⟩ := hr6
  rw [hsl]
  refine z_iload_n (pc := 9) dX0_penaltyOf_9 rfl ?_
  refine z_cV2 (pc := 10) mX0_penaltyAt l_X0_73 (by decide) dX0_penaltyOf_10 (by decide) rfl rfl (by decide) (Nat.le_of_ble_eq_true rfl) (c_X0_penaltyAt2 hs hh h1 h2) rfl (fun r10 σ10 hr10 => ?_)
  obtain ⟨rfl, rfl⟩ := hr10
  exact z_ireturn (pc := 13) dX0_penaltyOf_13 rfl rfl (⟨rfl, rfl⟩)
set_option maxRecDepth 20000 in
theorem c_X0_rpl2 {σ : z_Sto} {s h : Nat} {t : Int32} (hs : s ≤ 16) (hh : σ 23 3 = nI h) (h1 : 1 ≤ h) (h2 : h ≤ 500) : z_R layX iX0_restPenalties 2 [some (.ref 24), some (.int t), some (.int (nI s))] [] σ (fun r σ' => r = none ∧ σ' = x_rp 24 23 t (16 - s) s σ) := by
  generalize hf : 16 - s = f
  induction f using Nat.strongRecOn generalizing s σ
  rename_i f ih
  refine z_iload_n (pc := 2) dX0_restPenalties_2 rfl ?_
  refine z_bipush (pc := 3) (v := (nI 16)) dX0_restPenalties_3 (by decide) ?_
  refine z_icmp_ge (pc := 5) (tgt := 33) dX0_restPenalties_5 (by decide) (fun h5 => ?_) (fun h5 => ?_)
  · have q5 : f = 0 := by have := (nI_leI (by decide) (by omega)).mp h5; omega
    exact z_return (pc := 33) dX0_restPenalties_33 rfl (⟨rfl, by rw [q5]; rfl⟩)
  · have q5 : s < 16 := by have : ¬ 16 ≤ s := fun q => h5 ((nI_leI (by decide) (by omega)).mpr q); omega
    have hf1 : f = (16 - (s + 1)) + 1 := by omega
    refine z_aload_n (pc := 8) dX0_restPenalties_8 rfl ?_
    refine z_getA (pc := 9) f_X0_11 dX0_restPenalties_9 (by decide) rfl rfl ?_
    refine z_iload_n (pc := 12) dX0_restPenalties_12 rfl ?_
    refine z_aload_n (pc := 13) dX0_restPenalties_13 rfl ?_
    refine z_iload_n (pc := 14) dX0_restPenalties_14 rfl ?_
    refine z_iload_n (pc := 15) dX0_restPenalties_15 rfl ?_
    refine z_cV2 (pc := 16) mX0_penaltyAt l_X0_73 (by decide) dX0_restPenalties_16 (by decide) rfl rfl (by decide) (Nat.le_of_ble_eq_true rfl) (c_X0_penaltyAt2 q5 hh h1 h2) rfl (fun r16 σ16 hr16 => ?_)
    obtain ⟨rfl, rfl⟩ := hr16
    refine z_iastN (pc := 19) dX0_restPenalties_19 (by decide) rfl (by decide) (q5) ?_
    refine z_aload_n (pc := 20) dX0_restPenalties_20 rfl ?_
    refine z_getA (pc := 21) f_X0_17 dX0_restPenalties_21 (by decide) rfl rfl ?_
    refine z_iload_n (pc := 24) dX0_restPenalties_24 rfl ?_
    refine z_iload_n (pc := 25) dX0_restPenalties_25 rfl ?_
    refine z_iastN (pc := 26) dX0_restPenalties_26 (by decide) rfl (by decide) (q5) ?_
    refine z_iincN (pc := 27) dX0_restPenalties_27 rfl (by decide) rfl rfl ?_
    refine z_goto (pc := 30) (tgt := 2) dX0_restPenalties_30 (by decide) ?_
    exact (ih _ (by omega) (s := s + 1) (by omega) (by simp only [z_up_at, reduceIte, Nat.reduceEqDiff]; exact hh) rfl).mono (fun r σ' g => ⟨g.1, g.2.trans (by rw [hf1, x_rp]; rfl)⟩)
set_option maxRecDepth 20000 in
theorem c_X0_restPenalties2 {σ : z_Sto} {h : Nat} {t : Int32} (hh : σ 23 3 = nI h) (h1 : 1 ≤ h) (h2 : h ≤ 500) : z_R layX iX0_restPenalties 0 [some (.ref 24), some (.int t), none] [] σ (fun r σ' => r = none ∧ σ' = x_rp 24 23 t 16 0 σ) := by
  refine z_iconst (pc := 0) (v := (nI 0)) dX0_restPenalties_0 (by decide) ?_
  refine z_istore_n (pc := 1) dX0_restPenalties_1 (by decide) rfl rfl ?_
  exact c_X0_rpl2 (s := 0) (by decide) hh h1 h2
set_option maxRecDepth 20000 in
theorem c_X0_openingTick2 {σ : z_Sto} {s : Nat} {t : Int32} (hs : s < 16) : z_R layX iX0_openingTick 0 [some (.ref 24), some (.int (nI s)), some (.int t), none] [] σ (fun r σ' => r = some (.int (x_opn 24 23 s t σ)) ∧ σ' = σ) := by
  refine z_aload_n (pc := 0) dX0_openingTick_0 rfl ?_
  refine z_getA (pc := 1) f_X0_17 dX0_openingTick_1 (by decide) rfl rfl ?_
  refine z_iload_n (pc := 4) dX0_openingTick_4 rfl ?_
  refine z_ialdN (pc := 5) dX0_openingTick_5 (by decide) rfl (by decide) (hs) ?_
  refine z_aload_n (pc := 6) dX0_openingTick_6 rfl ?_
  refine z_getA (pc := 7) f_X0_42 dX0_openingTick_7 (by decide) rfl rfl ?_
  refine z_aload_n (pc := 10) dX0_openingTick_10 rfl ?_
  refine z_getA (pc := 11) f_X0_11 dX0_openingTick_11 (by decide) rfl rfl ?_
  refine z_iload_n (pc := 14) dX0_openingTick_14 rfl ?_
  refine z_ialdN (pc := 15) dX0_openingTick_15 (by decide) rfl (by decide) (hs) ?_
  refine z_aload_n (pc := 16) dX0_openingTick_16 rfl ?_
  refine z_getA (pc := 17) f_X0_42 dX0_openingTick_17 (by decide) rfl rfl ?_
  refine z_iconst (pc := 20) (v := (nI 5)) dX0_openingTick_20 (by decide) ?_
  refine z_cV1 (pc := 21) mX5_get l_X0_85 (by decide) dX0_openingTick_21 (by decide) rfl rfl (by decide) (Nat.le_of_ble_eq_true rfl) (c_X5_getT (by decide)) rfl (fun r21 σ21 hr21 => ?_)
  obtain ⟨rfl, rfl⟩ := hr21
  refine z_cV2 (pc := 24) mX5_ticksTillBelow l_X0_88 (by decide) dX0_openingTick_24 (by decide) rfl rfl (by decide) (Nat.le_of_ble_eq_true rfl) (c_X5_ttbT) rfl (fun r24 σ24 hr24 => ?_)
  obtain ⟨rfl, rfl⟩ := hr24
  refine z_iadd (pc := 27) dX0_openingTick_27 ?_
  refine z_istore_n (pc := 28) dX0_openingTick_28 (by decide) rfl rfl ?_
  refine z_iload_n (pc := 29) dX0_openingTick_29 rfl ?_
  refine z_iconst (pc := 30) (v := (nI 1)) dX0_openingTick_30 (by decide) ?_
  refine z_iadd (pc := 31) dX0_openingTick_31 ?_
  refine z_iload_n (pc := 32) dX0_openingTick_32 rfl ?_
  refine z_max (pc := 33) l_X0_91 (by decide) (Nat.le_of_ble_eq_true rfl) dX0_openingTick_33 ?_
  exact z_ireturn (pc := 36) dX0_openingTick_36 rfl rfl (⟨rfl, rfl⟩)
set_option maxRecDepth 20000 in
theorem c_X0_ticksTillOpen2 {σ : z_Sto} {i s : Nat} {t : Int32} (hi : i < 12) (hsl : σ 5 i = nI s) (hs : s < 16) : z_R layX iX0_ticksTillOpen 0 [some (.ref 24), some (.int (nI i)), some (.int t), none] [] σ (fun r σ' => r = some (.int (if σ 28 s = 0 then nI 0 else x_opn 24 23 s t σ - t)) ∧ σ' = σ) := by
  refine z_aload_n (pc := 0) dX0_ticksTillOpen_0 rfl ?_
  refine z_getA (pc := 1) f_X0_46 dX0_ticksTillOpen_1 (by decide) rfl rfl ?_
  refine z_iload_n (pc := 4) dX0_ticksTillOpen_4 rfl ?_
  refine z_cV1 (pc := 5) mX4_slotOf l_X0_62 (by decide) dX0_ticksTillOpen_5 (by decide) rfl rfl (by decide) (Nat.le_of_ble_eq_true rfl) (c_X4_slotOf hi) rfl (fun r5 σ5 hr5 => ?_)
  obtain ⟨rfl, rfl⟩ := hr5
  rw [hsl]
  refine z_istore_n (pc := 8) dX0_ticksTillOpen_8 (by decide) rfl rfl ?_
  refine z_aload_n (pc := 9) dX0_ticksTillOpen_9 rfl ?_
  refine z_getA (pc := 10) f_X0_23 dX0_ticksTillOpen_10 (by decide) rfl rfl ?_
  refine z_iload_n (pc := 13) dX0_ticksTillOpen_13 rfl ?_
  refine z_zaldN (pc := 14) dX0_ticksTillOpen_14 (by decide) rfl (by decide) (hs) ?_
  refine z_if_eq (pc := 15) (tgt := 29) dX0_ticksTillOpen_15 (by decide) (fun h15 => ?_) (fun h15 => ?_)
  · refine z_iconst (pc := 29) (v := (nI 0)) dX0_ticksTillOpen_29 (by decide) ?_
    exact z_ireturn (pc := 30) dX0_ticksTillOpen_30 rfl rfl (⟨by simp [h15], rfl⟩)
  · refine z_aload_n (pc := 18) dX0_ticksTillOpen_18 rfl ?_
    refine z_iload_n (pc := 19) dX0_ticksTillOpen_19 rfl ?_
    refine z_iload_n (pc := 20) dX0_ticksTillOpen_20 rfl ?_
    refine z_cV2 (pc := 21) mX0_openingTick l_X0_82 (by decide) dX0_ticksTillOpen_21 (by decide) rfl rfl (by decide) (Nat.le_of_ble_eq_true rfl) (c_X0_openingTick2 hs) rfl (fun r21 σ21 hr21 => ?_)
    obtain ⟨rfl, rfl⟩ := hr21
    refine z_iload_n (pc := 24) dX0_ticksTillOpen_24 rfl ?_
    refine z_isub (pc := 25) dX0_ticksTillOpen_25 ?_
    refine z_goto (pc := 26) (tgt := 30) dX0_ticksTillOpen_26 (by decide) ?_
    exact z_ireturn (pc := 30) dX0_ticksTillOpen_30 rfl rfl (⟨by simp [h15], rfl⟩)
set_option maxRecDepth 20000 in
theorem c_X0_wg22 {σ : z_Sto} {i w : Nat} {t : Int32} {v4 : Option Value} {Φ : z_Post} (hw : w < 3) (hΦ : Φ (some (.int (σ 23 w))) σ) : z_R layX iX0_weightOf 50 [some (.ref 24), some (.int (nI i)), some (.int (nI w)), some (.int t), v4] [] σ Φ := by
  refine z_aload_n (pc := 50) dX0_weightOf_50 rfl ?_
  refine z_getA (pc := 51) f_X0_42 dX0_weightOf_51 (by decide) rfl rfl ?_
  refine z_iload_n (pc := 54) dX0_weightOf_54 rfl ?_
  refine z_cV1 (pc := 55) mX5_get l_X0_85 (by decide) dX0_weightOf_55 (by decide) rfl rfl (by decide) (Nat.le_of_ble_eq_true rfl) (c_X5_getT (by omega)) rfl (fun r55 σ55 hr55 => ?_)
  obtain ⟨rfl, rfl⟩ := hr55
  exact z_ireturn (pc := 58) dX0_weightOf_58 rfl rfl (hΦ)
set_option maxRecDepth 20000 in
theorem c_X0_wg02 {σ : z_Sto} {i w : Nat} {t : Int32} (hw : w < 3) (hq : x_wgt 24 23 i w t σ = σ 23 w) : z_R layX iX0_weightOf 23 [some (.ref 24), some (.int (nI i)), some (.int (nI w)), some (.int t), some (.int (nI 0))] [] σ (fun r σ' => r = some (.int (x_wgt 24 23 i w t σ)) ∧ σ' = σ) := by
  refine z_iload (pc := 23) dX0_weightOf_23 rfl ?_
  refine z_if_eq (pc := 25) (tgt := 50) dX0_weightOf_25 (by decide) (fun h25 => ?_) (fun h25 => ?_)
  · exact c_X0_wg22 hw ⟨by rw [hq], rfl⟩
  · exact absurd rfl h25
set_option maxRecDepth 20000 in
theorem c_X0_wg12 {σ : z_Sto} {i w : Nat} {t : Int32} (hi : i < 12) (hw : w < 3) (q1 : w = 0) (h13 : σ 4 i = nI 2) : z_R layX iX0_weightOf 23 [some (.ref 24), some (.int (nI i)), some (.int (nI w)), some (.int t), some (.int (nI 1))] [] σ (fun r σ' => r = some (.int (x_wgt 24 23 i w t σ)) ∧ σ' = σ) := by
  refine z_iload (pc := 23) dX0_weightOf_23 rfl ?_
  refine z_if_eq (pc := 25) (tgt := 50) dX0_weightOf_25 (by decide) (fun h25 => ?_) (fun h25 => ?_)
  · exact absurd h25 (by decide)
  · refine z_aload_n (pc := 28) dX0_weightOf_28 rfl ?_
    refine z_getA (pc := 29) f_X0_39 dX0_weightOf_29 (by decide) rfl rfl ?_
    refine z_iload_n (pc := 32) dX0_weightOf_32 rfl ?_
    refine z_ialdN (pc := 33) dX0_weightOf_33 (by decide) rfl (by decide) (hi) ?_
    refine z_iload_n (pc := 34) dX0_weightOf_34 rfl ?_
    refine z_aload_n (pc := 35) dX0_weightOf_35 rfl ?_
    refine z_getA (pc := 36) f_X0_42 dX0_weightOf_36 (by decide) rfl rfl ?_
    refine z_bipush (pc := 39) (v := (nI 7)) dX0_weightOf_39 (by decide) ?_
    refine z_cV1 (pc := 41) mX5_get l_X0_85 (by decide) dX0_weightOf_41 (by decide) rfl rfl (by decide) (Nat.le_of_ble_eq_true rfl) (c_X5_getT (by decide)) rfl (fun r41 σ41 hr41 => ?_)
    obtain ⟨rfl, rfl⟩ := hr41
    refine z_isub (pc := 44) dX0_weightOf_44 ?_
    refine z_icmp_ge (pc := 45) (tgt := 50) dX0_weightOf_45 (by decide) (fun h45 => ?_) (fun h45 => ?_)
    · have hq : x_wgt 24 23 i w t σ41 = σ41 23 w := by rw [x_wgt, if_neg (fun g => z_nle g.2.2 h45)]
      exact c_X0_wg22 hw ⟨by rw [hq], rfl⟩
    · refine z_iconst (pc := 48) (v := (nI 0)) dX0_weightOf_48 (by decide) ?_
      exact z_ireturn (pc := 49) dX0_weightOf_49 rfl rfl (⟨by rw [x_wgt, if_pos ⟨q1, h13, by rw [← Int32.not_le]; exact h45⟩], rfl⟩)
set_option maxRecDepth 20000 in
theorem c_X0_weightOf2 {σ : z_Sto} {i w : Nat} {t : Int32} (hi : i < 12) (hw : w < 3) : z_R layX iX0_weightOf 0 [some (.ref 24), some (.int (nI i)), some (.int (nI w)), some (.int t), none] [] σ (fun r σ' => r = some (.int (x_wgt 24 23 i w t σ)) ∧ σ' = σ) := by
  refine z_iload_n (pc := 0) dX0_weightOf_0 rfl ?_
  refine z_if_ne (pc := 1) (tgt := 20) dX0_weightOf_1 (by decide) (fun h1 => ?_) (fun h1 => ?_)
  · have q1 : w ≠ 0 := fun q => h1 (by rw [q]; rfl)
    have hq : x_wgt 24 23 i w t σ = σ 23 w := by rw [x_wgt, if_neg (fun g => q1 g.1)]
    refine z_iconst (pc := 20) (v := (nI 0)) dX0_weightOf_20 (by decide) ?_
    refine z_istore (pc := 21) dX0_weightOf_21 (by decide) rfl rfl ?_
    exact by first | exact c_X0_wg02 hw hq | exact c_X0_wg12 hi hw q1 h13
  · have q1 : w = 0 := z_nI_inj (by omega) (by decide) h1
    refine z_aload_n (pc := 4) dX0_weightOf_4 rfl ?_
    refine z_getA (pc := 5) f_X0_46 dX0_weightOf_5 (by decide) rfl rfl ?_
    refine z_iload_n (pc := 8) dX0_weightOf_8 rfl ?_
    refine z_cV1 (pc := 9) mX4_kindOf l_X0_117 (by decide) dX0_weightOf_9 (by decide) rfl rfl (by decide) (Nat.le_of_ble_eq_true rfl) (c_X4_kindOf hi) rfl (fun r9 σ9 hr9 => ?_)
    obtain ⟨rfl, rfl⟩ := hr9
    refine z_iconst (pc := 12) (v := (nI 2)) dX0_weightOf_12 (by decide) ?_
    refine z_icmp_ne (pc := 13) (tgt := 20) dX0_weightOf_13 (by decide) (fun h13 => ?_) (fun h13 => ?_)
    · have hq : x_wgt 24 23 i w t σ9 = σ9 23 w := by rw [x_wgt, if_neg (fun g => h13 g.2.1)]
      refine z_iconst (pc := 20) (v := (nI 0)) dX0_weightOf_20 (by decide) ?_
      refine z_istore (pc := 21) dX0_weightOf_21 (by decide) rfl rfl ?_
      exact by first | exact c_X0_wg02 hw hq | exact c_X0_wg12 hi hw q1 h13
    · refine z_iconst (pc := 16) (v := (nI 1)) dX0_weightOf_16 (by decide) ?_
      refine z_goto (pc := 17) (tgt := 21) dX0_weightOf_17 (by decide) ?_
      refine z_istore (pc := 21) dX0_weightOf_21 (by decide) rfl rfl ?_
      exact by first | exact c_X0_wg02 hw hq | exact c_X0_wg12 hi hw q1 h13
set_option maxRecDepth 20000 in
theorem c_X0_lkl2 {σ : z_Sto} {s n i : Nat} {v3 : Option Value} (hs : s < 16) (hn : σ 3 3 = nI n) (h12 : n ≤ 12) (hi : i ≤ 12) : z_R layX iX0_lookAt 6 [some (.ref 24), some (.int (nI s)), some (.int (nI i)), v3] [] σ (fun r σ' => r = none ∧ σ' = x_lk 24 s (x_end s n - i) i σ) := by
  have he : x_end s n ≤ 12 := by unfold x_end; split <;> (try split) <;> omega
  generalize hf : x_end s n - i = f
  induction f using Nat.strongRecOn generalizing i σ v3
  rename_i f ih
  refine z_iload_n (pc := 6) dX0_lookAt_6 rfl ?_
  refine z_aload_n (pc := 7) dX0_lookAt_7 rfl ?_
  refine z_iload_n (pc := 8) dX0_lookAt_8 rfl ?_
  refine z_cV1 (pc := 9) mX0_endOf l_X0_106 (by decide) dX0_lookAt_9 (by decide) rfl rfl (by decide) (Nat.le_of_ble_eq_true rfl) (c_X0_endOf2 hs hn h12) rfl (fun r9 σ9 hr9 => ?_)
  obtain ⟨rfl, rfl⟩ := hr9
  refine z_icmp_ge (pc := 12) (tgt := 84) dX0_lookAt_12 (by decide) (fun h12 => ?_) (fun h12 => ?_)
  · have q12 : f = 0 := by have := (nI_leI (by omega) (by omega)).mp h12; omega
    exact z_return (pc := 84) dX0_lookAt_84 rfl (⟨rfl, by rw [q12]; rfl⟩)
  · have q12 : i < x_end s n := by have : ¬ x_end s n ≤ i := fun q => h12 ((nI_leI (by omega) (by omega)).mpr q); omega
    have hf1 : f = (x_end s n - (i + 1)) + 1 := by omega
    refine z_aload_n (pc := 15) dX0_lookAt_15 rfl ?_
    refine z_getA (pc := 16) f_X0_27 dX0_lookAt_16 (by decide) rfl rfl ?_
    refine z_iload_n (pc := 19) dX0_lookAt_19 rfl ?_
    refine z_zaldN (pc := 20) dX0_lookAt_20 (by decide) rfl (by decide) (by omega) ?_
    refine z_if_eq (pc := 21) (tgt := 37) dX0_lookAt_21 (by decide) (fun h21 => ?_) (fun h21 => ?_)
    · have hsn : x_sn 24 s i σ9 = nI 0 := by rw [x_sn, if_pos h21]
      refine z_iconst (pc := 37) (v := (nI 0)) dX0_lookAt_37 (by decide) ?_
      refine z_istore_n (pc := 38) dX0_lookAt_38 (by decide) rfl rfl ?_
      refine z_aload_n (pc := 39) dX0_lookAt_39 rfl ?_
      refine z_getA (pc := 40) f_X0_46 dX0_lookAt_40 (by decide) rfl rfl ?_
      refine z_iload_n (pc := 43) dX0_lookAt_43 rfl ?_
      refine z_cV1 (pc := 44) mX4_slotOf l_X0_62 (by decide) dX0_lookAt_44 (by decide) rfl rfl (by decide) (Nat.le_of_ble_eq_true rfl) (c_X4_slotOf (by omega)) rfl (fun r44 σ44 hr44 => ?_)
      obtain ⟨rfl, rfl⟩ := hr44
      refine z_iload_n (pc := 47) dX0_lookAt_47 rfl ?_
      refine z_icmp_ne (pc := 48) (tgt := 78) dX0_lookAt_48 (by decide) (fun h48 => ?_) (fun h48 => ?_)
      · have hq : x_l1 24 s i σ44 = σ44 := by rw [x_l1, if_neg (fun g => h48 g.1)]
        refine z_iincN (pc := 78) dX0_lookAt_78 rfl (by decide) rfl rfl ?_
        refine z_goto (pc := 81) (tgt := 6) dX0_lookAt_81 (by decide) ?_
        exact (ih _ (by omega) (i := i + 1) (by first | exact hn | (simp only [z_up_at, reduceIte, Nat.reduceEqDiff]; exact hn)) (by omega) rfl).mono (fun r σ' g => ⟨g.1, g.2.trans (by rw [hf1, x_lk, hq] <;> rfl)⟩)
      · refine z_iload_n (pc := 51) dX0_lookAt_51 rfl ?_
        refine z_aload_n (pc := 52) dX0_lookAt_52 rfl ?_
        refine z_getA (pc := 53) f_X0_30 dX0_lookAt_53 (by decide) rfl rfl ?_
        refine z_iload_n (pc := 56) dX0_lookAt_56 rfl ?_
        refine z_zaldN (pc := 57) dX0_lookAt_57 (by decide) rfl (by decide) (by omega) ?_
        refine z_icmp_eq (pc := 58) (tgt := 78) dX0_lookAt_58 (by decide) (fun h58 => ?_) (fun h58 => ?_)
        · have hq : x_l1 24 s i σ44 = σ44 := by rw [x_l1, if_neg (fun g => g.2 (hsn.trans h58))]
          refine z_iincN (pc := 78) dX0_lookAt_78 rfl (by decide) rfl rfl ?_
          refine z_goto (pc := 81) (tgt := 6) dX0_lookAt_81 (by decide) ?_
          exact (ih _ (by omega) (i := i + 1) (by first | exact hn | (simp only [z_up_at, reduceIte, Nat.reduceEqDiff]; exact hn)) (by omega) rfl).mono (fun r σ' g => ⟨g.1, g.2.trans (by rw [hf1, x_lk, hq] <;> rfl)⟩)
        · have hq : x_l1 24 s i σ44 = z_up (z_up σ44 (24 + 6) i (x_sn 24 s i σ44)) (24 + 7) i (σ44 (24 + 7) i + nI 1) := by rw [x_l1, if_pos ⟨h48, fun g => h58 (hsn.symm.trans g)⟩]
          rw [hsn] at hq
          refine z_aload_n (pc := 61) dX0_lookAt_61 rfl ?_
          refine z_getA (pc := 62) f_X0_30 dX0_lookAt_62 (by decide) rfl rfl ?_
          refine z_iload_n (pc := 65) dX0_lookAt_65 rfl ?_
          refine z_iload_n (pc := 66) dX0_lookAt_66 rfl ?_
          refine z_zastN (pc := 67) dX0_lookAt_67 (by decide) rfl (by decide) (by omega) (by first | exact Or.inl rfl | exact Or.inr rfl) ?_
          refine z_aload_n (pc := 68) dX0_lookAt_68 rfl ?_
          refine z_getA (pc := 69) f_X0_33 dX0_lookAt_69 (by decide) rfl rfl ?_
          refine z_iload_n (pc := 72) dX0_lookAt_72 rfl ?_
          refine z_dup2 (pc := 73) dX0_lookAt_73 ?_
          refine z_ialdN (pc := 74) dX0_lookAt_74 (by decide) rfl (by decide) (by omega) ?_
          refine z_iconst (pc := 75) (v := (nI 1)) dX0_lookAt_75 (by decide) ?_
          refine z_iadd (pc := 76) dX0_lookAt_76 ?_
          refine z_iastN (pc := 77) dX0_lookAt_77 (by decide) rfl (by decide) (by omega) ?_
          refine z_iincN (pc := 78) dX0_lookAt_78 rfl (by decide) rfl rfl ?_
          refine z_goto (pc := 81) (tgt := 6) dX0_lookAt_81 (by decide) ?_
          exact (ih _ (by omega) (i := i + 1) (by first | exact hn | (simp only [z_up_at, reduceIte, Nat.reduceEqDiff]; exact hn)) (by omega) rfl).mono (fun r σ' g => ⟨g.1, g.2.trans (by rw [hf1, x_lk, hq] <;> rfl)⟩)
    · refine z_aload_n (pc := 24) dX0_lookAt_24 rfl ?_
      refine z_getA (pc := 25) f_X0_23 dX0_lookAt_25 (by decide) rfl rfl ?_
      refine z_iload_n (pc := 28) dX0_lookAt_28 rfl ?_
      refine z_zaldN (pc := 29) dX0_lookAt_29 (by decide) rfl (by decide) (hs) ?_
      refine z_if_ne (pc := 30) (tgt := 37) dX0_lookAt_30 (by decide) (fun h30 => ?_) (fun h30 => ?_)
      · have hsn : x_sn 24 s i σ9 = nI 0 := by rw [x_sn, if_neg h21, if_neg h30]
        refine z_iconst (pc := 37) (v := (nI 0)) dX0_lookAt_37 (by decide) ?_
        refine z_istore_n (pc := 38) dX0_lookAt_38 (by decide) rfl rfl ?_
        refine z_aload_n (pc := 39) dX0_lookAt_39 rfl ?_
        refine z_getA (pc := 40) f_X0_46 dX0_lookAt_40 (by decide) rfl rfl ?_
        refine z_iload_n (pc := 43) dX0_lookAt_43 rfl ?_
        refine z_cV1 (pc := 44) mX4_slotOf l_X0_62 (by decide) dX0_lookAt_44 (by decide) rfl rfl (by decide) (Nat.le_of_ble_eq_true rfl) (c_X4_slotOf (by omega)) rfl (fun r44 σ44 hr44 => ?_)
        obtain ⟨rfl, rfl⟩ := hr44
        refine z_iload_n (pc := 47) dX0_lookAt_47 rfl ?_
        refine z_icmp_ne (pc := 48) (tgt := 78) dX0_lookAt_48 (by decide) (fun h48 => ?_) (fun h48 => ?_)
        · have hq : x_l1 24 s i σ44 = σ44 := by rw [x_l1, if_neg (fun g => h48 g.1)]
          refine z_iincN (pc := 78) dX0_lookAt_78 rfl (by decide) rfl rfl ?_
          refine z_goto (pc := 81) (tgt := 6) dX0_lookAt_81 (by decide) ?_
          exact (ih _ (by omega) (i := i + 1) (by first | exact hn | (simp only [z_up_at, reduceIte, Nat.reduceEqDiff]; exact hn)) (by omega) rfl).mono (fun r σ' g => ⟨g.1, g.2.trans (by rw [hf1, x_lk, hq] <;> rfl)⟩)
        · refine z_iload_n (pc := 51) dX0_lookAt_51 rfl ?_
          refine z_aload_n (pc := 52) dX0_lookAt_52 rfl ?_
          refine z_getA (pc := 53) f_X0_30 dX0_lookAt_53 (by decide) rfl rfl ?_
          refine z_iload_n (pc := 56) dX0_lookAt_56 rfl ?_
          refine z_zaldN (pc := 57) dX0_lookAt_57 (by decide) rfl (by decide) (by omega) ?_
          refine z_icmp_eq (pc := 58) (tgt := 78) dX0_lookAt_58 (by decide) (fun h58 => ?_) (fun h58 => ?_)
          · have hq : x_l1 24 s i σ44 = σ44 := by rw [x_l1, if_neg (fun g => g.2 (hsn.trans h58))]
            refine z_iincN (pc := 78) dX0_lookAt_78 rfl (by decide) rfl rfl ?_
            refine z_goto (pc := 81) (tgt := 6) dX0_lookAt_81 (by decide) ?_
            exact (ih _ (by omega) (i := i + 1) (by first | exact hn | (simp only [z_up_at, reduceIte, Nat.reduceEqDiff]; exact hn)) (by omega) rfl).mono (fun r σ' g => ⟨g.1, g.2.trans (by rw [hf1, x_lk, hq] <;> rfl)⟩)
          · have hq : x_l1 24 s i σ44 = z_up (z_up σ44 (24 + 6) i (x_sn 24 s i σ44)) (24 + 7) i (σ44 (24 + 7) i + nI 1) := by rw [x_l1, if_pos ⟨h48, fun g => h58 (hsn.symm.trans g)⟩]
            rw [hsn] at hq
            refine z_aload_n (pc := 61) dX0_lookAt_61 rfl ?_
            refine z_getA (pc := 62) f_X0_30 dX0_lookAt_62 (by decide) rfl rfl ?_
            refine z_iload_n (pc := 65) dX0_lookAt_65 rfl ?_
            refine z_iload_n (pc := 66) dX0_lookAt_66 rfl ?_
            refine z_zastN (pc := 67) dX0_lookAt_67 (by decide) rfl (by decide) (by omega) (by first | exact Or.inl rfl | exact Or.inr rfl) ?_
            refine z_aload_n (pc := 68) dX0_lookAt_68 rfl ?_
            refine z_getA (pc := 69) f_X0_33 dX0_lookAt_69 (by decide) rfl rfl ?_
            refine z_iload_n (pc := 72) dX0_lookAt_72 rfl ?_
            refine z_dup2 (pc := 73) dX0_lookAt_73 ?_
            refine z_ialdN (pc := 74) dX0_lookAt_74 (by decide) rfl (by decide) (by omega) ?_
            refine z_iconst (pc := 75) (v := (nI 1)) dX0_lookAt_75 (by decide) ?_
            refine z_iadd (pc := 76) dX0_lookAt_76 ?_
            refine z_iastN (pc := 77) dX0_lookAt_77 (by decide) rfl (by decide) (by omega) ?_
            refine z_iincN (pc := 78) dX0_lookAt_78 rfl (by decide) rfl rfl ?_
            refine z_goto (pc := 81) (tgt := 6) dX0_lookAt_81 (by decide) ?_
            exact (ih _ (by omega) (i := i + 1) (by first | exact hn | (simp only [z_up_at, reduceIte, Nat.reduceEqDiff]; exact hn)) (by omega) rfl).mono (fun r σ' g => ⟨g.1, g.2.trans (by rw [hf1, x_lk, hq] <;> rfl)⟩)
      · have hsn : x_sn 24 s i σ9 = nI 1 := by rw [x_sn, if_neg h21, if_pos h30]
        refine z_iconst (pc := 33) (v := (nI 1)) dX0_lookAt_33 (by decide) ?_
        refine z_goto (pc := 34) (tgt := 38) dX0_lookAt_34 (by decide) ?_
        refine z_istore_n (pc := 38) dX0_lookAt_38 (by decide) rfl rfl ?_
        refine z_aload_n (pc := 39) dX0_lookAt_39 rfl ?_
        refine z_getA (pc := 40) f_X0_46 dX0_lookAt_40 (by decide) rfl rfl ?_
        refine z_iload_n (pc := 43) dX0_lookAt_43 rfl ?_
        refine z_cV1 (pc := 44) mX4_slotOf l_X0_62 (by decide) dX0_lookAt_44 (by decide) rfl rfl (by decide) (Nat.le_of_ble_eq_true rfl) (c_X4_slotOf (by omega)) rfl (fun r44 σ44 hr44 => ?_)
        obtain ⟨rfl, rfl⟩ := hr44
        refine z_iload_n (pc := 47) dX0_lookAt_47 rfl ?_
        refine z_icmp_ne (pc := 48) (tgt := 78) dX0_lookAt_48 (by decide) (fun h48 => ?_) (fun h48 => ?_)
        · have hq : x_l1 24 s i σ44 = σ44 := by rw [x_l1, if_neg (fun g => h48 g.1)]
          refine z_iincN (pc := 78) dX0_lookAt_78 rfl (by decide) rfl rfl ?_
          refine z_goto (pc := 81) (tgt := 6) dX0_lookAt_81 (by decide) ?_
          exact (ih _ (by omega) (i := i + 1) (by first | exact hn | (simp only [z_up_at, reduceIte, Nat.reduceEqDiff]; exact hn)) (by omega) rfl).mono (fun r σ' g => ⟨g.1, g.2.trans (by rw [hf1, x_lk, hq] <;> rfl)⟩)
        · refine z_iload_n (pc := 51) dX0_lookAt_51 rfl ?_
          refine z_aload_n (pc := 52) dX0_lookAt_52 rfl ?_
          refine z_getA (pc := 53) f_X0_30 dX0_lookAt_53 (by decide) rfl rfl ?_
          refine z_iload_n (pc := 56) dX0_lookAt_56 rfl ?_
          refine z_zaldN (pc := 57) dX0_lookAt_57 (by decide) rfl (by decide) (by omega) ?_
          refine z_icmp_eq (pc := 58) (tgt := 78) dX0_lookAt_58 (by decide) (fun h58 => ?_) (fun h58 => ?_)
          · have hq : x_l1 24 s i σ44 = σ44 := by rw [x_l1, if_neg (fun g => g.2 (hsn.trans h58))]
            refine z_iincN (pc := 78) dX0_lookAt_78 rfl (by decide) rfl rfl ?_
            refine z_goto (pc := 81) (tgt := 6) dX0_lookAt_81 (by decide) ?_
            exact (ih _ (by omega) (i := i + 1) (by first | exact hn | (simp only [z_up_at, reduceIte, Nat.reduceEqDiff]; exact hn)) (by omega) rfl).mono (fun r σ' g => ⟨g.1, g.2.trans (by rw [hf1, x_lk, hq] <;> rfl)⟩)
          · have hq : x_l1 24 s i σ44 = z_up (z_up σ44 (24 + 6) i (x_sn 24 s i σ44)) (24 + 7) i (σ44 (24 + 7) i + nI 1) := by rw [x_l1, if_pos ⟨h48, fun g => h58 (hsn.symm.trans g)⟩]
            rw [hsn] at hq
            refine z_aload_n (pc := 61) dX0_lookAt_61 rfl ?_
            refine z_getA (pc := 62) f_X0_30 dX0_lookAt_62 (by decide) rfl rfl ?_
            refine z_iload_n (pc := 65) dX0_lookAt_65 rfl ?_
            refine z_iload_n (pc := 66) dX0_lookAt_66 rfl ?_
            refine z_zastN (pc := 67) dX0_lookAt_67 (by decide) rfl (by decide) (by omega) (by first | exact Or.inl rfl | exact Or.inr rfl) ?_
            refine z_aload_n (pc := 68) dX0_lookAt_68 rfl ?_
            refine z_getA (pc := 69) f_X0_33 dX0_lookAt_69 (by decide) rfl rfl ?_
            refine z_iload_n (pc := 72) dX0_lookAt_72 rfl ?_
            refine z_dup2 (pc := 73) dX0_lookAt_73 ?_
            refine z_ialdN (pc := 74) dX0_lookAt_74 (by decide) rfl (by decide) (by omega) ?_
            refine z_iconst (pc := 75) (v := (nI 1)) dX0_lookAt_75 (by decide) ?_
            refine z_iadd (pc := 76) dX0_lookAt_76 ?_
            refine z_iastN (pc := 77) dX0_lookAt_77 (by decide) rfl (by decide) (by omega) ?_
            refine z_iincN (pc := 78) dX0_lookAt_78 rfl (by decide) rfl rfl ?_
            refine z_goto (pc := 81) (tgt := 6) dX0_lookAt_81 (by decide) ?_
            exact (ih _ (by omega) (i := i + 1) (by first | exact hn | (simp only [z_up_at, reduceIte, Nat.reduceEqDiff]; exact hn)) (by omega) rfl).mono (fun r σ' g => ⟨g.1, g.2.trans (by rw [hf1, x_lk, hq] <;> rfl)⟩)
set_option maxRecDepth 20000 in
theorem c_X0_lookAt2 {σ : z_Sto} {s n : Nat} (hs : s < 16) (hn : σ 3 3 = nI n) (h12 : n ≤ 12) : z_R layX iX0_lookAt 0 [some (.ref 24), some (.int (nI s)), none, none] [] σ (fun r σ' => r = none ∧ σ' = x_look 24 s n σ) := by
  refine z_aload_n (pc := 0) dX0_lookAt_0 rfl ?_
  refine z_iload_n (pc := 1) dX0_lookAt_1 rfl ?_
  refine z_cV1 (pc := 2) mX0_firstOf l_X0_103 (by decide) dX0_lookAt_2 (by decide) rfl rfl (by decide) (Nat.le_of_ble_eq_true rfl) (c_X0_firstOf2 hs) rfl (fun r2 σ2 hr2 => ?_)
  obtain ⟨rfl, rfl⟩ := hr2
  refine z_istore_n (pc := 5) dX0_lookAt_5 (by decide) rfl rfl ?_
  exact c_X0_lkl2 hs hn h12 (by unfold x_fst; split <;> omega)
