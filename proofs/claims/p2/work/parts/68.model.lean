/-! the reference: marks -/
set_option maxRecDepth 20000 in
theorem m_isRightBy {μ : z_Sto} {l m : Nat} (hl : l < 12) (hm : m < 420) : z_R layM iX7_isRightBy 0 [some (.ref 0), some (.int (nI l)), some (.int (nI m))] [] μ (fun r μ' => ∃ v, r = some (.int v) ∧ μ' = μ) := by
  refine z_aload_n (pc := 0) dX7_isRightBy_0 rfl ?_
  refine z_getA (pc := 1) f_X7_19 dX7_isRightBy_1 (by decide) rfl rfl ?_
  refine z_iload_n (pc := 4) dX7_isRightBy_4 rfl ?_
  refine z_ialdN (pc := 5) dX7_isRightBy_5 (by decide) rfl (by decide) (hl) ?_
  refine z_if_eq (pc := 6) (tgt := 24) dX7_isRightBy_6 (by decide) (fun h6 => ?_) (fun h6 => ?_)
  · refine z_iconst (pc := 24) (v := (nI 1)) dX7_isRightBy_24 (by decide) ?_
    refine z_goto (pc := 25) (tgt := 29) dX7_isRightBy_25 (by decide) ?_
    exact z_ireturn (pc := 29) dX7_isRightBy_29 rfl (by decide) (⟨_, rfl, rfl⟩)
  · refine z_aload_n (pc := 9) dX7_isRightBy_9 rfl ?_
    refine z_getA (pc := 10) f_X7_65 dX7_isRightBy_10 (by decide) rfl rfl ?_
    refine z_sipush (pc := 13) (v := (nI 420)) dX7_isRightBy_13 (by decide) ?_
    refine z_iload_n (pc := 16) dX7_isRightBy_16 rfl ?_
    refine z_imulN (pc := 17) dX7_isRightBy_17 ?_
    refine z_iload_n (pc := 18) dX7_isRightBy_18 rfl ?_
    refine z_iaddN (pc := 19) dX7_isRightBy_19 ?_
    refine z_zaldN (pc := 20) dX7_isRightBy_20 (by decide) rfl (by decide) (by omega) ?_
    refine z_if_eq (pc := 21) (tgt := 28) dX7_isRightBy_21 (by decide) (fun h21 => ?_) (fun h21 => ?_)
    · refine z_iconst (pc := 28) (v := (nI 0)) dX7_isRightBy_28 (by decide) ?_
      exact z_ireturn (pc := 29) dX7_isRightBy_29 rfl (by decide) (⟨_, rfl, rfl⟩)
    · refine z_iconst (pc := 24) (v := (nI 1)) dX7_isRightBy_24 (by decide) ?_
      refine z_goto (pc := 25) (tgt := 29) dX7_isRightBy_25 (by decide) ?_
      exact z_ireturn (pc := 29) dX7_isRightBy_29 rfl (by decide) (⟨_, rfl, rfl⟩)
set_option maxRecDepth 20000 in
theorem m_coml {μ : z_Sto} {a b m : Nat} (ha : a < 12) (hb : b < 12) (hm : m ≤ 420) : z_R layM iX7_common 2 [some (.ref 0), some (.int (nI a)), some (.int (nI b)), some (.int (nI m))] [] μ (fun r μ' => x_some r ∧ μ' = μ) := by
  generalize hf : 420 - m = f
  induction f using Nat.strongRecOn generalizing m
  rename_i f ih
  refine z_iload_n (pc := 2) dX7_common_2 rfl ?_
  refine z_sipush (pc := 3) (v := (nI 420)) dX7_common_3 (by decide) ?_
  refine z_icmp_ge (pc := 6) (tgt := 35) dX7_common_6 (by decide) (fun h6 => ?_) (fun h6 => ?_)
  · refine z_iconst (pc := 35) (v := (-1)) dX7_common_35 (by decide) ?_
    exact z_ireturn (pc := 36) dX7_common_36 rfl rfl (⟨⟨_, rfl⟩, rfl⟩)
  · have q6 : m < 420 := by have : ¬ 420 ≤ m := fun q => h6 ((nI_leI (by decide) (by omega)).mpr q); omega
    refine z_aload_n (pc := 9) dX7_common_9 rfl ?_
    refine z_iload_n (pc := 10) dX7_common_10 rfl ?_
    refine z_iload_n (pc := 11) dX7_common_11 rfl ?_
    refine z_cV2 (pc := 12) mX7_isRightBy l_X7_180 (by decide) dX7_common_12 (by decide) rfl rfl (by decide) (Nat.le_of_ble_eq_true rfl) (m_isRightBy ha q6) rfl (fun r12 σ12 hr12 => ?_)
    obtain ⟨v12, rfl, rfl⟩ := hr12
    refine z_if_eq (pc := 15) (tgt := 29) dX7_common_15 (by decide) (fun h15 => ?_) (fun h15 => ?_)
    · refine z_iincN (pc := 29) dX7_common_29 rfl (by decide) rfl rfl ?_
      refine z_goto (pc := 32) (tgt := 2) dX7_common_32 (by decide) ?_
      exact ih _ (by omega) (by omega) rfl
    · refine z_aload_n (pc := 18) dX7_common_18 rfl ?_
      refine z_iload_n (pc := 19) dX7_common_19 rfl ?_
      refine z_iload_n (pc := 20) dX7_common_20 rfl ?_
      refine z_cV2 (pc := 21) mX7_isRightBy l_X7_180 (by decide) dX7_common_21 (by decide) rfl rfl (by decide) (Nat.le_of_ble_eq_true rfl) (m_isRightBy hb q6) rfl (fun r21 σ21 hr21 => ?_)
      obtain ⟨v21, rfl, rfl⟩ := hr21
      refine z_if_eq (pc := 24) (tgt := 29) dX7_common_24 (by decide) (fun h24 => ?_) (fun h24 => ?_)
      · refine z_iincN (pc := 29) dX7_common_29 rfl (by decide) rfl rfl ?_
        refine z_goto (pc := 32) (tgt := 2) dX7_common_32 (by decide) ?_
        exact ih _ (by omega) (by omega) rfl
      · refine z_iload_n (pc := 27) dX7_common_27 rfl ?_
        exact z_ireturn (pc := 28) dX7_common_28 rfl rfl (⟨⟨_, rfl⟩, rfl⟩)
set_option maxRecDepth 20000 in
theorem m_common {μ : z_Sto} {a b : Nat} (ha : a < 12) (hb : b < 12) : z_R layM iX7_common 0 [some (.ref 0), some (.int (nI a)), some (.int (nI b)), none] [] μ (fun r μ' => x_some r ∧ μ' = μ) := by
  refine z_iconst (pc := 0) (v := (nI 0)) dX7_common_0 (by decide) ?_
  refine z_istore_n (pc := 1) dX7_common_1 (by decide) rfl rfl ?_
  exact m_coml (m := 0) ha hb (by decide)
set_option maxRecDepth 20000 in
theorem m_fa13 {μ : z_Sto} {n m l : Nat} {v : Int32} {Φ : z_Post} (hn : μ 0 1 = nI n) (h12 : n ≤ 12) (hm : m < 420) (hl : l ≤ n) (K : ∀ v', z_R layM iX7_firstOfAll 46 [some (.ref 0), some (.int (nI m)), some (.int v'), some (.int (nI n))] [] μ Φ) : z_R layM iX7_firstOfAll 13 [some (.ref 0), some (.int (nI m)), some (.int v), some (.int (nI l))] [] μ Φ := by
  generalize hf : n - l = f
  induction f using Nat.strongRecOn generalizing l v
  rename_i f ih
  refine z_iload_n (pc := 13) dX7_firstOfAll_13 rfl ?_
  refine z_aload_n (pc := 14) dX7_firstOfAll_14 rfl ?_
  refine z_getI (pc := 15) f_X7_115 dX7_firstOfAll_15 (by decide) rfl rfl ?_
  rw [hn]
  refine z_icmp_ge (pc := 18) (tgt := 46) dX7_firstOfAll_18 (by decide) (fun h18 => ?_) (fun h18 => ?_)
  · have q18 : l = n := by have := (nI_leI (by omega) (by omega)).mp h18; omega
    subst q18
    exact K _
  · have q18 : l < n := by have : ¬ n ≤ l := fun q => h18 ((nI_leI (by omega) (by omega)).mpr q); omega
    refine z_iload_n (pc := 21) dX7_firstOfAll_21 rfl ?_
    refine z_if_eq (pc := 22) (tgt := 38) dX7_firstOfAll_22 (by decide) (fun h22 => ?_) (fun h22 => ?_)
    · refine z_iconst (pc := 38) (v := (nI 0)) dX7_firstOfAll_38 (by decide) ?_
      refine z_istore_n (pc := 39) dX7_firstOfAll_39 (by decide) rfl rfl ?_
      refine z_iincN (pc := 40) dX7_firstOfAll_40 rfl (by decide) rfl rfl ?_
      refine z_goto (pc := 43) (tgt := 13) dX7_firstOfAll_43 (by decide) ?_
      exact ih _ (by omega) (l := l + 1) (by omega) rfl
    · refine z_aload_n (pc := 25) dX7_firstOfAll_25 rfl ?_
      refine z_iload_n (pc := 26) dX7_firstOfAll_26 rfl ?_
      refine z_iload_n (pc := 27) dX7_firstOfAll_27 rfl ?_
      refine z_cV2 (pc := 28) mX7_isRightBy l_X7_180 (by decide) dX7_firstOfAll_28 (by decide) rfl rfl (by decide) (Nat.le_of_ble_eq_true rfl) (m_isRightBy (by omega) hm) rfl (fun r28 σ28 hr28 => ?_)
      obtain ⟨v28, rfl, rfl⟩ := hr28
      refine z_if_eq (pc := 31) (tgt := 38) dX7_firstOfAll_31 (by decide) (fun h31 => ?_) (fun h31 => ?_)
      · refine z_iconst (pc := 38) (v := (nI 0)) dX7_firstOfAll_38 (by decide) ?_
        refine z_istore_n (pc := 39) dX7_firstOfAll_39 (by decide) rfl rfl ?_
        refine z_iincN (pc := 40) dX7_firstOfAll_40 rfl (by decide) rfl rfl ?_
        refine z_goto (pc := 43) (tgt := 13) dX7_firstOfAll_43 (by decide) ?_
        exact ih _ (by omega) (l := l + 1) (by omega) rfl
      · refine z_iconst (pc := 34) (v := (nI 1)) dX7_firstOfAll_34 (by decide) ?_
        refine z_goto (pc := 35) (tgt := 39) dX7_firstOfAll_35 (by decide) ?_
        refine z_istore_n (pc := 39) dX7_firstOfAll_39 (by decide) rfl rfl ?_
        refine z_iincN (pc := 40) dX7_firstOfAll_40 rfl (by decide) rfl rfl ?_
        refine z_goto (pc := 43) (tgt := 13) dX7_firstOfAll_43 (by decide) ?_
        exact ih _ (by omega) (l := l + 1) (by omega) rfl
set_option maxRecDepth 20000 in
theorem m_fal {μ : z_Sto} {n m : Nat} {v2 v3 : Option Value} (hn : μ 0 1 = nI n) (h12 : n ≤ 12) (hm : m ≤ 420) : z_R layM iX7_firstOfAll 2 [some (.ref 0), some (.int (nI m)), v2, v3] [] μ (fun r μ' => (r = some (.int (-1)) ∨ ∃ k, k < 420 ∧ r = some (.int (nI k))) ∧ μ' = μ) := by
  generalize hf : 420 - m = f
  induction f using Nat.strongRecOn generalizing m v2 v3
  rename_i f ih
  refine z_iload_n (pc := 2) dX7_firstOfAll_2 rfl ?_
  refine z_sipush (pc := 3) (v := (nI 420)) dX7_firstOfAll_3 (by decide) ?_
  refine z_icmp_ge (pc := 6) (tgt := 58) dX7_firstOfAll_6 (by decide) (fun h6 => ?_) (fun h6 => ?_)
  · refine z_iconst (pc := 58) (v := (-1)) dX7_firstOfAll_58 (by decide) ?_
    exact z_ireturn (pc := 59) dX7_firstOfAll_59 rfl rfl (⟨Or.inl rfl, rfl⟩)
  · have q6 : m < 420 := by have : ¬ 420 ≤ m := fun q => h6 ((nI_leI (by decide) (by omega)).mpr q); omega
    refine z_iconst (pc := 9) (v := (nI 1)) dX7_firstOfAll_9 (by decide) ?_
    refine z_istore_n (pc := 10) dX7_firstOfAll_10 (by decide) rfl rfl ?_
    refine z_iconst (pc := 11) (v := (nI 0)) dX7_firstOfAll_11 (by decide) ?_
    refine z_istore_n (pc := 12) dX7_firstOfAll_12 (by decide) rfl rfl ?_
    exact m_fa13 (l := 0) hn h12 q6 (by omega) (fun v' => z_iload_n (pc := 46) dX7_firstOfAll_46 rfl (z_if_eq (pc := 47) (tgt := 52) dX7_firstOfAll_47 (by decide) (fun _ => z_iincN (pc := 52) dX7_firstOfAll_52 rfl (by decide) rfl rfl (z_goto (pc := 55) (tgt := 2) dX7_firstOfAll_55 (by decide) (ih _ (by omega) (by omega) rfl))) (fun _ => z_iload_n (pc := 50) dX7_firstOfAll_50 rfl (z_ireturn (pc := 51) dX7_firstOfAll_51 rfl rfl ⟨Or.inr ⟨m, q6, rfl⟩, rfl⟩))))
set_option maxRecDepth 20000 in
theorem m_firstOfAll {μ : z_Sto} {n : Nat} (hn : μ 0 1 = nI n) (h12 : n ≤ 12) : z_R layM iX7_firstOfAll 0 [some (.ref 0), none, none, none] [] μ (fun r μ' => (r = some (.int (-1)) ∨ ∃ k, k < 420 ∧ r = some (.int (nI k))) ∧ μ' = μ) := by
  refine z_iconst (pc := 0) (v := (nI 0)) dX7_firstOfAll_0 (by decide) ?_
  refine z_istore_n (pc := 1) dX7_firstOfAll_1 (by decide) rfl rfl ?_
  exact m_fal (m := 0) hn h12 (by decide)
set_option maxRecDepth 20000 in
theorem m_wf47 {μ : z_Sto} {n a b : Nat} (hn : μ 0 1 = nI n) (h12 : n ≤ 12) (ha : a < n) (hb : b ≤ n) (K : z_R layM iX7_whoForbids 102 [some (.ref 0), some (.int (nI a)), some (.int (nI n))] [] μ (fun r μ' => x_some r ∧ μ' = μ)) : z_R layM iX7_whoForbids 47 [some (.ref 0), some (.int (nI a)), some (.int (nI b))] [] μ (fun r μ' => x_some r ∧ μ' = μ) := by
  generalize hf : n - b = f
  induction f using Nat.strongRecOn generalizing b
  rename_i f ih
  refine z_iload_n (pc := 47) dX7_whoForbids_47 rfl ?_
  refine z_aload_n (pc := 48) dX7_whoForbids_48 rfl ?_
  refine z_getI (pc := 49) f_X7_115 dX7_whoForbids_49 (by decide) rfl rfl ?_
  rw [hn]
  refine z_icmp_ge (pc := 52) (tgt := 102) dX7_whoForbids_52 (by decide) (fun h52 => ?_) (fun h52 => ?_)
  · have q52 : b = n := by have := (nI_leI (by omega) (by omega)).mp h52; omega
    subst q52
    exact K
  · have q52 : b < n := by have : ¬ n ≤ b := fun q => h52 ((nI_leI (by omega) (by omega)).mpr q); omega
    refine z_aload_n (pc := 55) dX7_whoForbids_55 rfl ?_
    refine z_getA (pc := 56) f_X7_19 dX7_whoForbids_56 (by decide) rfl rfl ?_
    refine z_iload_n (pc := 59) dX7_whoForbids_59 rfl ?_
    refine z_ialdN (pc := 60) dX7_whoForbids_60 (by decide) rfl (by decide) (by omega) ?_
    refine z_iconst (pc := 61) (v := (nI 1)) dX7_whoForbids_61 (by decide) ?_
    refine z_icmp_ne (pc := 62) (tgt := 96) dX7_whoForbids_62 (by decide) (fun h62 => ?_) (fun h62 => ?_)
    · refine z_iincN (pc := 96) dX7_whoForbids_96 rfl (by decide) rfl rfl ?_
      refine z_goto (pc := 99) (tgt := 47) dX7_whoForbids_99 (by decide) ?_
      exact ih _ (by omega) (b := b + 1) (by omega) rfl
    · refine z_aload_n (pc := 65) dX7_whoForbids_65 rfl ?_
      refine z_getA (pc := 66) f_X7_19 dX7_whoForbids_66 (by decide) rfl rfl ?_
      refine z_iload_n (pc := 69) dX7_whoForbids_69 rfl ?_
      refine z_ialdN (pc := 70) dX7_whoForbids_70 (by decide) rfl (by decide) (by omega) ?_
      refine z_iconst (pc := 71) (v := (nI 2)) dX7_whoForbids_71 (by decide) ?_
      refine z_icmp_ne (pc := 72) (tgt := 96) dX7_whoForbids_72 (by decide) (fun h72 => ?_) (fun h72 => ?_)
      · refine z_iincN (pc := 96) dX7_whoForbids_96 rfl (by decide) rfl rfl ?_
        refine z_goto (pc := 99) (tgt := 47) dX7_whoForbids_99 (by decide) ?_
        exact ih _ (by omega) (b := b + 1) (by omega) rfl
      · refine z_aload_n (pc := 75) dX7_whoForbids_75 rfl ?_
        refine z_iload_n (pc := 76) dX7_whoForbids_76 rfl ?_
        refine z_iload_n (pc := 77) dX7_whoForbids_77 rfl ?_
        refine z_cV2 (pc := 78) mX7_common l_X7_183 (by decide) dX7_whoForbids_78 (by decide) rfl rfl (by decide) (Nat.le_of_ble_eq_true rfl) (m_common (by omega) (by omega)) rfl (fun r78 σ78 hr78 => ?_)
        obtain ⟨⟨v78, rfl⟩, rfl⟩ := hr78
        refine z_iconst (pc := 81) (v := (-1)) dX7_whoForbids_81 (by decide) ?_
        refine z_icmp_ne (pc := 82) (tgt := 96) dX7_whoForbids_82 (by decide) (fun h82 => ?_) (fun h82 => ?_)
        · refine z_iincN (pc := 96) dX7_whoForbids_96 rfl (by decide) rfl rfl ?_
          refine z_goto (pc := 99) (tgt := 47) dX7_whoForbids_99 (by decide) ?_
          exact ih _ (by omega) (b := b + 1) (by omega) rfl
        · refine z_sipush (pc := 85) (v := (-1000)) dX7_whoForbids_85 (by decide) ?_
          refine z_bipush (pc := 88) (v := (nI 16)) dX7_whoForbids_88 (by decide) ?_
          refine z_iload_n (pc := 90) dX7_whoForbids_90 rfl ?_
          refine z_imulN (pc := 91) dX7_whoForbids_91 ?_
          refine z_isub (pc := 92) dX7_whoForbids_92 ?_
          refine z_iload_n (pc := 93) dX7_whoForbids_93 rfl ?_
          refine z_isub (pc := 94) dX7_whoForbids_94 ?_
          exact z_ireturn (pc := 95) dX7_whoForbids_95 rfl rfl (⟨⟨_, rfl⟩, rfl⟩)
set_option maxRecDepth 20000 in
theorem m_wf37 {μ : z_Sto} {n a : Nat} {v2 : Option Value} (hn : μ 0 1 = nI n) (h12 : n ≤ 12) (ha : a ≤ n) : z_R layM iX7_whoForbids 37 [some (.ref 0), some (.int (nI a)), v2] [] μ (fun r μ' => x_some r ∧ μ' = μ) := by
  generalize hf : n - a = f
  induction f using Nat.strongRecOn generalizing a v2
  rename_i f ih
  refine z_iload_n (pc := 37) dX7_whoForbids_37 rfl ?_
  refine z_aload_n (pc := 38) dX7_whoForbids_38 rfl ?_
  refine z_getI (pc := 39) f_X7_115 dX7_whoForbids_39 (by decide) rfl rfl ?_
  rw [hn]
  refine z_icmp_ge (pc := 42) (tgt := 108) dX7_whoForbids_42 (by decide) (fun h42 => ?_) (fun h42 => ?_)
  · refine z_sipush (pc := 108) (v := (-999)) dX7_whoForbids_108 (by decide) ?_
    exact z_ireturn (pc := 111) dX7_whoForbids_111 rfl rfl (⟨⟨_, rfl⟩, rfl⟩)
  · have q42 : a < n := by have : ¬ n ≤ a := fun q => h42 ((nI_leI (by omega) (by omega)).mpr q); omega
    refine z_iconst (pc := 45) (v := (nI 0)) dX7_whoForbids_45 (by decide) ?_
    refine z_istore_n (pc := 46) dX7_whoForbids_46 (by decide) rfl rfl ?_
    exact m_wf47 (b := 0) hn h12 q42 (by omega) (z_iincN (pc := 102) dX7_whoForbids_102 rfl (by decide) rfl rfl (z_goto (pc := 105) (tgt := 37) dX7_whoForbids_105 (by decide) (ih _ (by omega) (a := a + 1) (by omega) rfl)))
set_option maxRecDepth 20000 in
theorem m_wf2 {μ : z_Sto} {n l : Nat} (hn : μ 0 1 = nI n) (h12 : n ≤ 12) (hl : l ≤ n) : z_R layM iX7_whoForbids 2 [some (.ref 0), some (.int (nI l)), none] [] μ (fun r μ' => x_some r ∧ μ' = μ) := by
  generalize hf : n - l = f
  induction f using Nat.strongRecOn generalizing l
  rename_i f ih
  refine z_iload_n (pc := 2) dX7_whoForbids_2 rfl ?_
  refine z_aload_n (pc := 3) dX7_whoForbids_3 rfl ?_
  refine z_getI (pc := 4) f_X7_115 dX7_whoForbids_4 (by decide) rfl rfl ?_
  rw [hn]
  refine z_icmp_ge (pc := 7) (tgt := 35) dX7_whoForbids_7 (by decide) (fun h7 => ?_) (fun h7 => ?_)
  · refine z_iconst (pc := 35) (v := (nI 0)) dX7_whoForbids_35 (by decide) ?_
    refine z_istore_n (pc := 36) dX7_whoForbids_36 (by decide) rfl rfl ?_
    exact m_wf37 (a := 0) hn h12 (by omega)
  · have q7 : l < n := by have : ¬ n ≤ l := fun q => h7 ((nI_leI (by omega) (by omega)).mpr q); omega
    refine z_aload_n (pc := 10) dX7_whoForbids_10 rfl ?_
    refine z_iload_n (pc := 11) dX7_whoForbids_11 rfl ?_
    refine z_iload_n (pc := 12) dX7_whoForbids_12 rfl ?_
    refine z_cV2 (pc := 13) mX7_common l_X7_183 (by decide) dX7_whoForbids_13 (by decide) rfl rfl (by decide) (Nat.le_of_ble_eq_true rfl) (m_common (by omega) (by omega)) rfl (fun r13 σ13 hr13 => ?_)
    obtain ⟨⟨v13, rfl⟩, rfl⟩ := hr13
    refine z_iconst (pc := 16) (v := (-1)) dX7_whoForbids_16 (by decide) ?_
    refine z_icmp_ne (pc := 17) (tgt := 29) dX7_whoForbids_17 (by decide) (fun h17 => ?_) (fun h17 => ?_)
    · refine z_iincN (pc := 29) dX7_whoForbids_29 rfl (by decide) rfl rfl ?_
      refine z_goto (pc := 32) (tgt := 2) dX7_whoForbids_32 (by decide) ?_
      exact ih _ (by omega) (l := l + 1) (by omega) rfl
    · refine z_sipush (pc := 20) (v := (-1000)) dX7_whoForbids_20 (by decide) ?_
      refine z_bipush (pc := 23) (v := (nI 17)) dX7_whoForbids_23 (by decide) ?_
      refine z_iload_n (pc := 25) dX7_whoForbids_25 rfl ?_
      refine z_imulN (pc := 26) dX7_whoForbids_26 ?_
      refine z_isub (pc := 27) dX7_whoForbids_27 ?_
      exact z_ireturn (pc := 28) dX7_whoForbids_28 rfl rfl (⟨⟨_, rfl⟩, rfl⟩)
set_option maxRecDepth 20000 in
theorem m_whoForbids {μ : z_Sto} {n : Nat} (hn : μ 0 1 = nI n) (h12 : n ≤ 12) : z_R layM iX7_whoForbids 0 [some (.ref 0), none, none] [] μ (fun r μ' => x_some r ∧ μ' = μ) := by
  refine z_iconst (pc := 0) (v := (nI 0)) dX7_whoForbids_0 (by decide) ?_
  refine z_istore_n (pc := 1) dX7_whoForbids_1 (by decide) rfl rfl ?_
  exact m_wf2 (l := 0) hn h12 (by omega)
set_option maxRecDepth 20000 in
theorem m_tm34 {μ μ0 : z_Sto} {n e h t l m sh op : Nat} {q : Int32} {T O : Nat → List Nat} {Φ : z_Post} (H : m_inv μ n e h t T O) (P : m_pub μ μ0) (hm : m < 420) (hl : l ≤ n) (K : ∀ τ w5, m_inv τ n e h t T O → m_pub τ μ0 → z_R layM iX7_triesMarks 113 [some (.ref 0), some (.int q), some (.int (nI m)), some (.int (nI sh)), some (.int (nI op)), w5] [] τ Φ) : z_R layM iX7_triesMarks 34 [some (.ref 0), some (.int q), some (.int (nI m)), some (.int (nI sh)), some (.int (nI op)), some (.int (nI l))] [] μ Φ := by
  have h12 := H.1.2.1
  generalize hf : n - l = f
  induction f using Nat.strongRecOn generalizing l μ
  rename_i f ih
  refine z_iload (pc := 34) dX7_triesMarks_34 rfl ?_
  refine z_aload_n (pc := 36) dX7_triesMarks_36 rfl ?_
  refine z_getI (pc := 37) f_X7_115 dX7_triesMarks_37 (by decide) rfl rfl ?_
  rw [H.1.1]
  refine z_icmp_ge (pc := 40) (tgt := 113) dX7_triesMarks_40 (by decide) (fun h40 => ?_) (fun h40 => ?_)
  · exact K _ _ H P
  · have q40 : l < n := by have : ¬ n ≤ l := fun q => h40 ((nI_leI (by omega) (by omega)).mpr q); omega
    refine z_aload_n (pc := 43) dX7_triesMarks_43 rfl ?_
    refine z_getA (pc := 44) f_X7_65 dX7_triesMarks_44 (by decide) rfl rfl ?_
    refine z_sipush (pc := 47) (v := (nI 420)) dX7_triesMarks_47 (by decide) ?_
    refine z_iload (pc := 50) dX7_triesMarks_50 rfl ?_
    refine z_imulN (pc := 52) dX7_triesMarks_52 ?_
    refine z_iload_n (pc := 53) dX7_triesMarks_53 rfl ?_
    refine z_iaddN (pc := 54) dX7_triesMarks_54 ?_
    refine z_aload_n (pc := 55) dX7_triesMarks_55 rfl ?_
    refine z_getA (pc := 56) f_X7_19 dX7_triesMarks_56 (by decide) rfl rfl ?_
    refine z_iload (pc := 59) dX7_triesMarks_59 rfl ?_
    refine z_ialdN (pc := 61) dX7_triesMarks_61 (by decide) rfl (by decide) (by omega) ?_
    refine z_iconst (pc := 62) (v := (nI 1)) dX7_triesMarks_62 (by decide) ?_
    refine z_icmp_ne (pc := 63) (tgt := 87) dX7_triesMarks_63 (by decide) (fun h63 => ?_) (fun h63 => ?_)
    · refine z_aload_n (pc := 87) dX7_triesMarks_87 rfl ?_
      refine z_getA (pc := 88) f_X7_47 dX7_triesMarks_88 (by decide) rfl rfl ?_
      refine z_bipush (pc := 91) (v := (nI 12)) dX7_triesMarks_91 (by decide) ?_
      refine z_iload (pc := 93) dX7_triesMarks_93 rfl ?_
      refine z_iaddN (pc := 95) dX7_triesMarks_95 ?_
      refine z_ialdN (pc := 96) dX7_triesMarks_96 (by decide) rfl (by decide) (by omega) ?_
      refine z_iload_n (pc := 97) dX7_triesMarks_97 rfl ?_
      refine z_icmp_gt (pc := 98) (tgt := 105) dX7_triesMarks_98 (by decide) (fun h98 => ?_) (fun h98 => ?_)
      · refine z_iconst (pc := 105) (v := (nI 0)) dX7_triesMarks_105 (by decide) ?_
        refine z_zastN (pc := 106) dX7_triesMarks_106 (by decide) rfl (by decide) (by omega) (by first | exact Or.inl rfl | exact Or.inr rfl) ?_
        refine z_iincN (pc := 107) dX7_triesMarks_107 rfl (by decide) rfl rfl ?_
        refine z_goto (pc := 110) (tgt := 34) dX7_triesMarks_110 (by decide) ?_
        exact ih _ (by omega) (l := l + 1) (m_up_inv H (by decide)) ((show m_pub (z_up μ 19 _ _) μ from ⟨by rw [z_up_ne _ _ _ (by decide)], z_up_ne _ _ _ (by decide), z_up_ne _ _ _ (by decide), by rw [z_up_ne _ _ _ (by decide)], z_up_ne _ _ _ (by decide)⟩).tr P) (by omega) rfl
      · refine z_iconst (pc := 101) (v := (nI 1)) dX7_triesMarks_101 (by decide) ?_
        refine z_goto (pc := 102) (tgt := 106) dX7_triesMarks_102 (by decide) ?_
        refine z_zastN (pc := 106) dX7_triesMarks_106 (by decide) rfl (by decide) (by omega) (by first | exact Or.inl rfl | exact Or.inr rfl) ?_
        refine z_iincN (pc := 107) dX7_triesMarks_107 rfl (by decide) rfl rfl ?_
        refine z_goto (pc := 110) (tgt := 34) dX7_triesMarks_110 (by decide) ?_
        exact ih _ (by omega) (l := l + 1) (m_up_inv H (by decide)) ((show m_pub (z_up μ 19 _ _) μ from ⟨by rw [z_up_ne _ _ _ (by decide)], z_up_ne _ _ _ (by decide), z_up_ne _ _ _ (by decide), by rw [z_up_ne _ _ _ (by decide)], z_up_ne _ _ _ (by decide)⟩).tr P) (by omega) rfl
    · refine z_aload_n (pc := 66) dX7_triesMarks_66 rfl ?_
      refine z_getA (pc := 67) f_X7_50 dX7_triesMarks_67 (by decide) rfl rfl ?_
      refine z_bipush (pc := 70) (v := (nI 12)) dX7_triesMarks_70 (by decide) ?_
      refine z_iload (pc := 72) dX7_triesMarks_72 rfl ?_
      refine z_iaddN (pc := 74) dX7_triesMarks_74 ?_
      refine z_ialdN (pc := 75) dX7_triesMarks_75 (by decide) rfl (by decide) (by omega) ?_
      refine z_if_ne (pc := 76) (tgt := 83) dX7_triesMarks_76 (by decide) (fun h76 => ?_) (fun h76 => ?_)
      · refine z_iconst (pc := 83) (v := (nI 0)) dX7_triesMarks_83 (by decide) ?_
        refine z_goto (pc := 84) (tgt := 106) dX7_triesMarks_84 (by decide) ?_
        refine z_zastN (pc := 106) dX7_triesMarks_106 (by decide) rfl (by decide) (by omega) (by first | exact Or.inl rfl | exact Or.inr rfl) ?_
        refine z_iincN (pc := 107) dX7_triesMarks_107 rfl (by decide) rfl rfl ?_
        refine z_goto (pc := 110) (tgt := 34) dX7_triesMarks_110 (by decide) ?_
        exact ih _ (by omega) (l := l + 1) (m_up_inv H (by decide)) ((show m_pub (z_up μ 19 _ _) μ from ⟨by rw [z_up_ne _ _ _ (by decide)], z_up_ne _ _ _ (by decide), z_up_ne _ _ _ (by decide), by rw [z_up_ne _ _ _ (by decide)], z_up_ne _ _ _ (by decide)⟩).tr P) (by omega) rfl
      · refine z_iconst (pc := 79) (v := (nI 1)) dX7_triesMarks_79 (by decide) ?_
        refine z_goto (pc := 80) (tgt := 106) dX7_triesMarks_80 (by decide) ?_
        refine z_zastN (pc := 106) dX7_triesMarks_106 (by decide) rfl (by decide) (by omega) (by first | exact Or.inl rfl | exact Or.inr rfl) ?_
        refine z_iincN (pc := 107) dX7_triesMarks_107 rfl (by decide) rfl rfl ?_
        refine z_goto (pc := 110) (tgt := 34) dX7_triesMarks_110 (by decide) ?_
        exact ih _ (by omega) (l := l + 1) (m_up_inv H (by decide)) ((show m_pub (z_up μ 19 _ _) μ from ⟨by rw [z_up_ne _ _ _ (by decide)], z_up_ne _ _ _ (by decide), z_up_ne _ _ _ (by decide), by rw [z_up_ne _ _ _ (by decide)], z_up_ne _ _ _ (by decide)⟩).tr P) (by omega) rfl
theorem m_tri : ∀ a, a < 21 → 1 ≤ a → (a + 1) * a = a * (a - 1) + 2 * a ∧ a * (a - 1) + 2 * a ≤ 420 := by decide
set_option maxRecDepth 20000 in
theorem m_tm18 {μ μ0 : z_Sto} {n e h t a b m : Nat} {q : Int32} {v5 : Option Value} {T O : Nat → List Nat} {Φ : z_Post} (H : m_inv μ n e h t T O) (P : m_pub μ μ0) (ha : a < 21) (ha1 : 1 ≤ a) (hb : b ≤ 2 * a + 1) (hm : m + 1 = a * (a - 1) + b) (K : ∀ τ w4 w5, m_inv τ n e h t T O → m_pub τ μ0 → z_R layM iX7_triesMarks 125 [some (.ref 0), some (.int q), some (.int (nI ((a + 1) * a))), some (.int (nI (500 * a))), w4, w5] [] τ Φ) : z_R layM iX7_triesMarks 18 [some (.ref 0), some (.int q), some (.int (nI m)), some (.int (nI (500 * a))), some (.int (nI (250 * b))), v5] [] μ Φ := by
  have ht := m_tri a ha ha1
  generalize hf : 2 * a + 1 - b = f
  induction f using Nat.strongRecOn generalizing b m μ v5
  rename_i f ih
  refine z_iload (pc := 18) dX7_triesMarks_18 rfl ?_
  refine z_iload_n (pc := 20) dX7_triesMarks_20 rfl ?_
  refine z_icmp_gt (pc := 21) (tgt := 125) dX7_triesMarks_21 (by decide) (fun h21 => ?_) (fun h21 => ?_)
  · have q21 : b = 2 * a + 1 := by have := (nI_ltI (by omega) (by omega)).mp h21; omega
    have em : m = (a + 1) * a := by omega
    exact em ▸ K _ _ _ H P
  · have q21 : b < 2 * a + 1 := by have : ¬ 500 * a < 250 * b := fun q => h21 ((nI_ltI (by omega) (by omega)).mpr q); omega
    refine z_aload_n (pc := 24) dX7_triesMarks_24 rfl ?_
    refine z_iload_n (pc := 25) dX7_triesMarks_25 rfl ?_
    refine z_iload (pc := 26) dX7_triesMarks_26 rfl ?_
    refine z_cV2 (pc := 28) mX7_goesOver l_X7_177 (by decide) dX7_triesMarks_28 (by decide) rfl rfl (by decide) (Nat.le_of_ble_eq_true rfl) (m_goesOver H.1 H.2.1.1 H.2.1.2.1) rfl (fun r28 σ28 hr28 => ?_)
    obtain ⟨rfl, f28, k28⟩ := hr28
    have HH := m_f1_inv H f28 k28
    refine z_iconst (pc := 31) (v := (nI 0)) dX7_triesMarks_31 (by decide) ?_
    refine z_istore (pc := 32) dX7_triesMarks_32 (by decide) rfl rfl ?_
    exact m_tm34 (l := 0) (sh := 500 * a) (op := 250 * b) HH.1 (HH.2.tr P) (by omega) (by omega) (fun τ w5 H' P' => z_iincN (pc := 113) dX7_triesMarks_113 rfl (by decide) rfl rfl (z_iincWN (pc := 116) 250 dX7_triesMarks_116 (by decide) rfl (by decide) rfl rfl (z_goto (pc := 122) (tgt := 18) dX7_triesMarks_122 (by decide) (ih _ (by omega) (b := b + 1) H' P' (by omega) (by omega) rfl))))
set_option maxRecDepth 20000 in
theorem m_tm6 {μ μ0 : z_Sto} {n e h t a : Nat} {q : Int32} {v4 v5 : Option Value} {T O : Nat → List Nat} (H : m_inv μ n e h t T O) (P : m_pub μ μ0) (ha : a ≤ 21) (ha1 : 1 ≤ a) : z_R layM iX7_triesMarks 6 [some (.ref 0), some (.int q), some (.int (nI (a * (a - 1)))), some (.int (nI (500 * a))), v4, v5] [] μ (fun r μ' => r = none ∧ m_inv μ' n e h t T O ∧ m_pub μ' μ0) := by
  generalize hf : 21 - a = f
  induction f using Nat.strongRecOn generalizing a μ v4 v5
  rename_i f ih
  refine z_iload_n (pc := 6) dX7_triesMarks_6 rfl ?_
  refine z_sipush (pc := 7) (v := (nI 10000)) dX7_triesMarks_7 (by decide) ?_
  refine z_icmp_gt (pc := 10) (tgt := 134) dX7_triesMarks_10 (by decide) (fun h10 => ?_) (fun h10 => ?_)
  · exact z_return (pc := 134) dX7_triesMarks_134 rfl (⟨rfl, H, P⟩)
  · have q10 : a < 21 := by have : ¬ 10000 < 500 * a := fun q => h10 ((nI_ltI (by decide) (by omega)).mpr q); omega
    refine z_sipush (pc := 13) (v := (nI 250)) dX7_triesMarks_13 (by decide) ?_
    refine z_istore (pc := 16) dX7_triesMarks_16 (by decide) rfl rfl ?_
    exact m_tm18 (b := 1) H P q10 ha1 (by omega) rfl (fun τ w4 w5 H' P' => z_iincWN (pc := 125) 500 dX7_triesMarks_125 (by decide) rfl (by decide) rfl rfl (z_goto (pc := 131) (tgt := 6) dX7_triesMarks_131 (by decide) (ih _ (by omega) (a := a + 1) H' P' (by omega) (by omega) rfl)))
set_option maxRecDepth 20000 in
theorem m_triesMarks {μ : z_Sto} {n e h t : Nat} {q : Int32} {T O : Nat → List Nat} (H : m_inv μ n e h t T O) : z_R layM iX7_triesMarks 0 [some (.ref 0), some (.int q), none, none, none, none] [] μ (fun r μ' => r = none ∧ m_inv μ' n e h t T O ∧ m_pub μ' μ) := by
  refine z_iconst (pc := 0) (v := (nI 0)) dX7_triesMarks_0 (by decide) ?_
  refine z_istore_n (pc := 1) dX7_triesMarks_1 (by decide) rfl rfl ?_
  refine z_sipush (pc := 2) (v := (nI 500)) dX7_triesMarks_2 (by decide) ?_
  refine z_istore_n (pc := 5) dX7_triesMarks_5 (by decide) rfl rfl ?_
  exact m_tm6 (a := 1) H m_pub_rf (by decide) (by decide)
set_option maxRecDepth 20000 in
theorem m_mk85 {μ : z_Sto} {a k : Nat} {q v v3 : Int32} (hk : k < 420) (ha : 1 ≤ a) (hak : a + k ≤ 500) : z_R layM iX7_marks 85 [some (.ref 0), some (.int q), some (.int v), some (.int v3), some (.int (nI (500 * a))), some (.int (nI k))] [] μ (fun r μ' => x_some r ∧ μ' = μ) := by
  induction k using Nat.strongRecOn generalizing a
  rename_i k ih
  refine z_iload (pc := 85) dX7_marks_85 rfl ?_
  refine z_iload (pc := 87) dX7_marks_87 rfl ?_
  refine z_sipush (pc := 89) (v := (nI 250)) dX7_marks_89 (by decide) ?_
  refine z_idiv (pc := 92) dX7_marks_92 (by decide) ?_
  rw [pk_div (by omega) (by decide) (by decide), show 500 * a / 250 = 2 * a by omega]
  refine z_icmp_lt (pc := 93) (tgt := 116) dX7_marks_93 (by decide) (fun h93 => ?_) (fun h93 => ?_)
  · refine z_ldc (pc := 116) k_X7_132 dX7_marks_116 ?_
    refine z_iload (pc := 118) dX7_marks_118 rfl ?_
    refine z_imulN (pc := 120) dX7_marks_120 ?_
    refine z_sipush (pc := 121) (v := (nI 250)) dX7_marks_121 (by decide) ?_
    refine z_iload (pc := 124) dX7_marks_124 rfl ?_
    refine z_iconst (pc := 126) (v := (nI 1)) dX7_marks_126 (by decide) ?_
    refine z_iaddN (pc := 127) dX7_marks_127 ?_
    refine z_imulN (pc := 128) dX7_marks_128 ?_
    refine z_iaddN (pc := 129) dX7_marks_129 ?_
    exact z_ireturn (pc := 130) dX7_marks_130 rfl rfl (⟨⟨_, rfl⟩, rfl⟩)
  · have q93 : 2 * a ≤ k := by have : ¬ k < 2 * a := fun q => h93 ((nI_ltI (by omega) (by omega)).mpr q); omega
    refine z_iload (pc := 96) dX7_marks_96 rfl ?_
    refine z_iload (pc := 98) dX7_marks_98 rfl ?_
    refine z_sipush (pc := 100) (v := (nI 250)) dX7_marks_100 (by decide) ?_
    refine z_idiv (pc := 103) dX7_marks_103 (by decide) ?_
    rw [pk_div (by omega) (by decide) (by decide), show 500 * a / 250 = 2 * a by omega]
    refine z_isub (pc := 104) dX7_marks_104 ?_
    rw [pk_sub q93]
    refine z_istore (pc := 105) dX7_marks_105 (by decide) rfl rfl ?_
    refine z_iincWN (pc := 107) 500 dX7_marks_107 (by decide) rfl (by decide) rfl rfl ?_
    refine z_goto (pc := 113) (tgt := 85) dX7_marks_113 (by decide) ?_
    exact ih _ (by omega) (a := a + 1) (by omega) (by omega) (by omega)
set_option maxRecDepth 20000 in
theorem m_mk17 {μ : z_Sto} {n l : Nat} {q v : Int32} {Φ : z_Post} (hn : μ 0 1 = nI n) (h12 : n ≤ 12) (hl : l ≤ n) (K : ∀ v', z_R layM iX7_marks 50 [some (.ref 0), some (.int q), some (.int v'), some (.int (nI n)), none, none] [] μ Φ) : z_R layM iX7_marks 17 [some (.ref 0), some (.int q), some (.int v), some (.int (nI l)), none, none] [] μ Φ := by
  generalize hf : n - l = f
  induction f using Nat.strongRecOn generalizing l v
  rename_i f ih
  refine z_iload_n (pc := 17) dX7_marks_17 rfl ?_
  refine z_aload_n (pc := 18) dX7_marks_18 rfl ?_
  refine z_getI (pc := 19) f_X7_115 dX7_marks_19 (by decide) rfl rfl ?_
  rw [hn]
  refine z_icmp_ge (pc := 22) (tgt := 50) dX7_marks_22 (by decide) (fun h22 => ?_) (fun h22 => ?_)
  · have q22 : l = n := by have := (nI_leI (by omega) (by omega)).mp h22; omega
    subst q22
    exact K _
  · have q22 : l < n := by have : ¬ n ≤ l := fun q => h22 ((nI_leI (by omega) (by omega)).mpr q); omega
    refine z_iload_n (pc := 25) dX7_marks_25 rfl ?_
    refine z_if_eq (pc := 26) (tgt := 42) dX7_marks_26 (by decide) (fun h26 => ?_) (fun h26 => ?_)
    · refine z_iconst (pc := 42) (v := (nI 0)) dX7_marks_42 (by decide) ?_
      refine z_istore_n (pc := 43) dX7_marks_43 (by decide) rfl rfl ?_
      refine z_iincN (pc := 44) dX7_marks_44 rfl (by decide) rfl rfl ?_
      refine z_goto (pc := 47) (tgt := 17) dX7_marks_47 (by decide) ?_
      exact ih _ (by omega) (l := l + 1) (by omega) rfl
    · refine z_aload_n (pc := 29) dX7_marks_29 rfl ?_
      refine z_getA (pc := 30) f_X7_19 dX7_marks_30 (by decide) rfl rfl ?_
      refine z_iload_n (pc := 33) dX7_marks_33 rfl ?_
      refine z_ialdN (pc := 34) dX7_marks_34 (by decide) rfl (by decide) (by omega) ?_
      refine z_if_ne (pc := 35) (tgt := 42) dX7_marks_35 (by decide) (fun h35 => ?_) (fun h35 => ?_)
      · refine z_iconst (pc := 42) (v := (nI 0)) dX7_marks_42 (by decide) ?_
        refine z_istore_n (pc := 43) dX7_marks_43 (by decide) rfl rfl ?_
        refine z_iincN (pc := 44) dX7_marks_44 rfl (by decide) rfl rfl ?_
        refine z_goto (pc := 47) (tgt := 17) dX7_marks_47 (by decide) ?_
        exact ih _ (by omega) (l := l + 1) (by omega) rfl
      · refine z_iconst (pc := 38) (v := (nI 1)) dX7_marks_38 (by decide) ?_
        refine z_goto (pc := 39) (tgt := 43) dX7_marks_39 (by decide) ?_
        refine z_istore_n (pc := 43) dX7_marks_43 (by decide) rfl rfl ?_
        refine z_iincN (pc := 44) dX7_marks_44 rfl (by decide) rfl rfl ?_
        refine z_goto (pc := 47) (tgt := 17) dX7_marks_47 (by decide) ?_
        exact ih _ (by omega) (l := l + 1) (by omega) rfl
set_option maxRecDepth 20000 in
theorem m_mk50 {μ : z_Sto} {n e h t : Nat} {q v : Int32} {T O : Nat → List Nat} (H : m_inv μ n e h t T O) : z_R layM iX7_marks 50 [some (.ref 0), some (.int q), some (.int v), some (.int (nI n)), none, none] [] μ (m_keepP μ n h t) := by
  have h12 := H.1.2.1
  refine z_iload_n (pc := 50) dX7_marks_50 rfl ?_
  refine z_if_eq (pc := 51) (tgt := 57) dX7_marks_51 (by decide) (fun h51 => ?_) (fun h51 => ?_)
  · refine z_aload_n (pc := 57) dX7_marks_57 rfl ?_
    refine z_iload_n (pc := 58) dX7_marks_58 rfl ?_
    refine z_cV1 (pc := 59) mX7_triesMarks l_X7_186 (by decide) dX7_marks_59 (by decide) rfl rfl (by decide) (Nat.le_of_ble_eq_true rfl) (m_triesMarks H) rfl (fun r59 σ59 hr59 => ?_)
    obtain ⟨rfl, H1, P1⟩ := hr59
    refine z_aload_n (pc := 62) dX7_marks_62 rfl ?_
    refine z_cV0 (pc := 63) mX7_firstOfAll l_X7_189 (by decide) dX7_marks_63 (by decide) rfl rfl (by decide) (Nat.le_of_ble_eq_true rfl) (m_firstOfAll H1.1.1 h12) rfl (fun r63 σ63 hr63 => ?_)
    obtain ⟨c63, rfl⟩ := hr63
    obtain ⟨v63, rfl, d63⟩ : ∃ v, r63 = some (.int v) ∧ (v = -1 ∨ ∃ k, k < 420 ∧ v = nI k) := by rcases c63 with q | ⟨k, hk, q⟩; exact ⟨_, q, Or.inl rfl⟩; exact ⟨_, q, Or.inr ⟨k, hk, rfl⟩⟩
    refine z_istore_n (pc := 66) dX7_marks_66 (by decide) rfl rfl ?_
    refine z_iload_n (pc := 67) dX7_marks_67 rfl ?_
    refine z_iconst (pc := 68) (v := (-1)) dX7_marks_68 (by decide) ?_
    refine z_icmp_ne (pc := 69) (tgt := 77) dX7_marks_69 (by decide) (fun h69 => ?_) (fun h69 => ?_)
    · obtain ⟨k, hk, rfl⟩ := d63.resolve_left h69
      refine z_sipush (pc := 77) (v := (nI 500)) dX7_marks_77 (by decide) ?_
      refine z_istore (pc := 80) dX7_marks_80 (by decide) rfl rfl ?_
      refine z_iload_n (pc := 82) dX7_marks_82 rfl ?_
      refine z_istore (pc := 83) dX7_marks_83 (by decide) rfl rfl ?_
      exact (m_mk85 (a := 1) hk (by decide) (by omega)).mono (fun r μ' u => by obtain ⟨u1, rfl⟩ := u; exact ⟨u1, ⟨_, _, _, H1⟩, P1⟩)
    · refine z_aload_n (pc := 72) dX7_marks_72 rfl ?_
      refine z_cV0 (pc := 73) mX7_whoForbids l_X7_193 (by decide) dX7_marks_73 (by decide) rfl rfl (by decide) (Nat.le_of_ble_eq_true rfl) (m_whoForbids H1.1.1 h12) rfl (fun r73 σ73 hr73 => ?_)
      obtain ⟨⟨v73, rfl⟩, rfl⟩ := hr73
      exact z_ireturn (pc := 76) dX7_marks_76 rfl rfl (⟨⟨_, rfl⟩, ⟨_, _, _, H1⟩, P1⟩)
  · refine z_bipush (pc := 54) (v := (-3)) dX7_marks_54 (by decide) ?_
    exact z_ireturn (pc := 56) dX7_marks_56 rfl rfl (⟨⟨_, rfl⟩, ⟨_, _, _, H⟩, m_pub_rf⟩)
set_option maxRecDepth 20000 in
theorem m_marks {μ : z_Sto} {n e h t : Nat} {q : Int32} {T O : Nat → List Nat} (H : m_inv μ n e h t T O) : z_R layM iX7_marks 0 [some (.ref 0), some (.int q), none, none, none, none] [] μ (m_keepP μ n h t) := by
  refine z_iload_n (pc := 0) dX7_marks_0 rfl ?_
  refine z_iconst (pc := 1) (v := (nI 0)) dX7_marks_1 (by decide) ?_
  refine z_bipush (pc := 2) (v := (nI 100)) dX7_marks_2 (by decide) ?_
  refine z_cS3 (pc := 4) mX7_in l_X7_124 (by decide) dX7_marks_4 (by decide) (Nat.le_of_ble_eq_true rfl) (m_in) rfl (fun r4 σ4 hr4 => ?_)
  obtain ⟨v4, rfl, g1, g2, rfl⟩ := hr4
  refine z_if_ne (pc := 7) (tgt := 13) dX7_marks_7 (by decide) (fun h7 => ?_) (fun h7 => ?_)
  · refine z_iconst (pc := 13) (v := (nI 1)) dX7_marks_13 (by decide) ?_
    refine z_istore_n (pc := 14) dX7_marks_14 (by decide) rfl rfl ?_
    refine z_iconst (pc := 15) (v := (nI 0)) dX7_marks_15 (by decide) ?_
    refine z_istore_n (pc := 16) dX7_marks_16 (by decide) rfl rfl ?_
    exact m_mk17 (l := 0) H.1.1 H.1.2.1 (by omega) (fun v' => m_mk50 H)
  · refine z_bipush (pc := 10) (v := (-2)) dX7_marks_10 (by decide) ?_
    exact z_ireturn (pc := 12) dX7_marks_12 rfl rfl (⟨⟨_, rfl⟩, ⟨_, _, _, H⟩, m_pub_rf⟩)
