/-! the reference: rule; marks -/
set_option maxRecDepth 20000 in
theorem m_least0 {μ : z_Sto} {k : Nat} (hk : k < 8) : z_R layM iX7_least 0 [some (.int (nI k))] [] μ (fun r μ' => r = some (.int (if k < 3 ∨ k = 7 then nI 0 else nI 1)) ∧ μ' = μ) := by
  refine z_iload_n (pc := 0) dX7_least_0 rfl ?_
  refine z_iconst (pc := 1) (v := (nI 3)) dX7_least_1 (by decide) ?_
  refine z_icmp_lt (pc := 2) (tgt := 11) dX7_least_2 (by decide) (fun h2 => ?_) (fun h2 => ?_)
  · have q2 : k < 3 := (nI_ltI (by omega) (by decide)).mp h2
    refine z_iconst (pc := 11) (v := (nI 0)) dX7_least_11 (by decide) ?_
    refine z_goto (pc := 12) (tgt := 16) dX7_least_12 (by decide) ?_
    exact z_ireturn (pc := 16) dX7_least_16 rfl rfl (⟨by first | rw [if_pos (Or.inl q2)] | rw [if_pos (Or.inr q8)] | rw [if_neg (fun g => g.elim q2 q8)], rfl⟩)
  · have q2 : ¬ k < 3 := fun q => h2 ((nI_ltI (by omega) (by decide)).mpr q)
    refine z_iload_n (pc := 5) dX7_least_5 rfl ?_
    refine z_bipush (pc := 6) (v := (nI 7)) dX7_least_6 (by decide) ?_
    refine z_icmp_ne (pc := 8) (tgt := 15) dX7_least_8 (by decide) (fun h8 => ?_) (fun h8 => ?_)
    · have q8 : ¬ k = 7 := fun q => h8 (by rw [q])
      refine z_iconst (pc := 15) (v := (nI 1)) dX7_least_15 (by decide) ?_
      exact z_ireturn (pc := 16) dX7_least_16 rfl rfl (⟨by first | rw [if_pos (Or.inl q2)] | rw [if_pos (Or.inr q8)] | rw [if_neg (fun g => g.elim q2 q8)], rfl⟩)
    · have q8 : k = 7 := z_nI_inj (by omega) (by decide) h8
      refine z_iconst (pc := 11) (v := (nI 0)) dX7_least_11 (by decide) ?_
      refine z_goto (pc := 12) (tgt := 16) dX7_least_12 (by decide) ?_
      exact z_ireturn (pc := 16) dX7_least_16 rfl rfl (⟨by first | rw [if_pos (Or.inl q2)] | rw [if_pos (Or.inr q8)] | rw [if_neg (fun g => g.elim q2 q8)], rfl⟩)
theorem m_least_eq {k : Nat} (hk : k < 8) : (if k < 3 ∨ k = 7 then nI 0 else nI 1) = z_least k := by
  rcases (show k = 0 ∨ k = 1 ∨ k = 2 ∨ k = 3 ∨ k = 4 ∨ k = 5 ∨ k = 6 ∨ k = 7 by omega) with rfl | rfl | rfl | rfl | rfl | rfl | rfl | rfl <;> decide
set_option maxRecDepth 20000 in
theorem m_most0 {μ : z_Sto} {k : Nat} (hk : k < 8) : z_R layM iX7_most 0 [some (.int (nI k))] [] μ (fun r μ' => r = some (.int (if k < 3 then nI 10000 else if k = 3 then nI 500 else if k = 6 then nI 100000 else if k = 7 then nI 1000 else nI 20000)) ∧ μ' = μ) := by
  refine z_iload_n (pc := 0) dX7_most_0 rfl ?_
  refine z_iconst (pc := 1) (v := (nI 3)) dX7_most_1 (by decide) ?_
  refine z_icmp_ge (pc := 2) (tgt := 11) dX7_most_2 (by decide) (fun h2 => ?_) (fun h2 => ?_)
  · have q2 : ¬ k < 3 := by have := (nI_leI (by decide) (by omega)).mp h2; omega
    refine z_iload_n (pc := 11) dX7_most_11 rfl ?_
    refine z_iconst (pc := 12) (v := (nI 3)) dX7_most_12 (by decide) ?_
    refine z_icmp_ne (pc := 13) (tgt := 22) dX7_most_13 (by decide) (fun h13 => ?_) (fun h13 => ?_)
    · have q13 : ¬ k = 3 := fun q => h13 (by rw [q])
      refine z_iload_n (pc := 22) dX7_most_22 rfl ?_
      refine z_bipush (pc := 23) (v := (nI 6)) dX7_most_23 (by decide) ?_
      refine z_icmp_ne (pc := 25) (tgt := 33) dX7_most_25 (by decide) (fun h25 => ?_) (fun h25 => ?_)
      · have q25 : ¬ k = 6 := fun q => h25 (by rw [q])
        refine z_iload_n (pc := 33) dX7_most_33 rfl ?_
        refine z_bipush (pc := 34) (v := (nI 7)) dX7_most_34 (by decide) ?_
        refine z_icmp_ne (pc := 36) (tgt := 45) dX7_most_36 (by decide) (fun h36 => ?_) (fun h36 => ?_)
        · have q36 : ¬ k = 7 := fun q => h36 (by rw [q])
          refine z_sipush (pc := 45) (v := (nI 20000)) dX7_most_45 (by decide) ?_
          exact z_ireturn (pc := 48) dX7_most_48 rfl rfl (⟨by first | rw [if_pos q2] | rw [if_neg q2, if_pos q13] | rw [if_neg q2, if_neg q13, if_pos q25] | rw [if_neg q2, if_neg q13, if_neg q25, if_pos q36] | rw [if_neg q2, if_neg q13, if_neg q25, if_neg q36], rfl⟩)
        · have q36 : k = 7 := z_nI_inj (by omega) (by decide) h36
          refine z_sipush (pc := 39) (v := (nI 1000)) dX7_most_39 (by decide) ?_
          refine z_goto (pc := 42) (tgt := 48) dX7_most_42 (by decide) ?_
          exact z_ireturn (pc := 48) dX7_most_48 rfl rfl (⟨by first | rw [if_pos q2] | rw [if_neg q2, if_pos q13] | rw [if_neg q2, if_neg q13, if_pos q25] | rw [if_neg q2, if_neg q13, if_neg q25, if_pos q36] | rw [if_neg q2, if_neg q13, if_neg q25, if_neg q36], rfl⟩)
      · have q25 : k = 6 := z_nI_inj (by omega) (by decide) h25
        refine z_ldc (pc := 28) k_X7_132 dX7_most_28 ?_
        refine z_goto (pc := 30) (tgt := 48) dX7_most_30 (by decide) ?_
        exact z_ireturn (pc := 48) dX7_most_48 rfl rfl (⟨by first | rw [if_pos q2] | rw [if_neg q2, if_pos q13] | rw [if_neg q2, if_neg q13, if_pos q25] | rw [if_neg q2, if_neg q13, if_neg q25, if_pos q36] | rw [if_neg q2, if_neg q13, if_neg q25, if_neg q36], rfl⟩)
    · have q13 : k = 3 := z_nI_inj (by omega) (by decide) h13
      refine z_sipush (pc := 16) (v := (nI 500)) dX7_most_16 (by decide) ?_
      refine z_goto (pc := 19) (tgt := 48) dX7_most_19 (by decide) ?_
      exact z_ireturn (pc := 48) dX7_most_48 rfl rfl (⟨by first | rw [if_pos q2] | rw [if_neg q2, if_pos q13] | rw [if_neg q2, if_neg q13, if_pos q25] | rw [if_neg q2, if_neg q13, if_neg q25, if_pos q36] | rw [if_neg q2, if_neg q13, if_neg q25, if_neg q36], rfl⟩)
  · have q2 : k < 3 := by have : ¬ 3 ≤ k := fun q => h2 ((nI_leI (by decide) (by omega)).mpr q); omega
    refine z_sipush (pc := 5) (v := (nI 10000)) dX7_most_5 (by decide) ?_
    refine z_goto (pc := 8) (tgt := 48) dX7_most_8 (by decide) ?_
    exact z_ireturn (pc := 48) dX7_most_48 rfl rfl (⟨by first | rw [if_pos q2] | rw [if_neg q2, if_pos q13] | rw [if_neg q2, if_neg q13, if_pos q25] | rw [if_neg q2, if_neg q13, if_neg q25, if_pos q36] | rw [if_neg q2, if_neg q13, if_neg q25, if_neg q36], rfl⟩)
theorem m_most_eq {k : Nat} (hk : k < 8) : (if k < 3 then nI 10000 else if k = 3 then nI 500 else if k = 6 then nI 100000 else if k = 7 then nI 1000 else nI 20000) = z_most k := by
  rcases (show k = 0 ∨ k = 1 ∨ k = 2 ∨ k = 3 ∨ k = 4 ∨ k = 5 ∨ k = 6 ∨ k = 7 by omega) with rfl | rfl | rfl | rfl | rfl | rfl | rfl | rfl <;> decide
/-- what a rule may become, by the reference's own numbers -/
def m_adm (μ : z_Sto) (w v : Int32) : Prop := ∃ k, k < 8 ∧ w = nI k ∧ z_least k ≤ v ∧ v ≤ z_most k ∧ (k = 4 → μ 1 5 ≤ v) ∧ (k = 5 → v ≤ μ 1 4)
theorem m_adm_iff {μ : z_Sto} {v : Int32} {k : Nat} (hk : k < 8) : m_adm μ (nI k) v ↔ (z_least k ≤ v ∧ v ≤ z_most k ∧ (k = 4 → μ 1 5 ≤ v) ∧ (k = 5 → v ≤ μ 1 4)) := by
  constructor
  · rintro ⟨j, hj, e, h⟩
    have := z_nI_inj (by omega) (by omega) e
    subst this
    exact h
  · exact fun h => ⟨k, hk, rfl, h⟩
def m_r1 (s : Nat) (μ : z_Sto) : z_Sto := z_up (z_up μ 8 s (m_fade (μ 8 s) (μ 5 0 - μ 9 s) (μ 1 3))) 9 s (μ 5 0)
def m_rp : Nat → Nat → z_Sto → z_Sto
  | 0, _, μ => μ
  | f + 1, s, μ => m_rp f (s + 1) (m_r1 s μ)
theorem m_rp_fr {c : Nat} (h : c ≠ 8 ∧ c ≠ 9) : ∀ (f s : Nat) (μ : z_Sto), m_rp f s μ c = μ c
  | 0, _, _ => rfl
  | f + 1, s, μ => by rw [m_rp, m_rp_fr h f, m_r1, z_up_ne _ _ _ h.2, z_up_ne _ _ _ h.1]
def m_rul (k : Nat) (v : Int32) (μ : z_Sto) : z_Sto := z_up (z_up (z_up (m_rp 16 0 μ) 1 k v) 6 0 (upd (μ 1) k v 4)) 7 0 (upd (μ 1) k v 5)
theorem m_rul_fr {k c : Nat} {v : Int32} {μ : z_Sto} (h : c ≠ 1 ∧ c ≠ 6 ∧ c ≠ 7 ∧ c ≠ 8 ∧ c ≠ 9) : m_rul k v μ c = μ c := by
  rw [m_rul, z_up_ne _ _ _ h.2.2.1, z_up_ne _ _ _ h.2.1, z_up_ne _ _ _ h.1, m_rp_fr h.2.2.2]
theorem m_rul_1 {k : Nat} {v : Int32} {μ : z_Sto} : m_rul k v μ 1 = upd (μ 1) k v := by
  rw [m_rul, z_up_ne _ _ _ (by decide), z_up_ne _ _ _ (by decide), z_up_same, m_rp_fr (by decide)]
set_option maxRecDepth 20000 in
theorem m_rl60 {μ : z_Sto} {k s h : Nat} {v : Int32} (hk : k < 8) (hs : s ≤ 16) (hh : μ 1 3 = nI h) (h1 : 1 ≤ h) (h2 : h ≤ 500) : z_R layM iX7_rule 60 [some (.ref 0), some (.int (nI k)), some (.int v), some (.int (nI s))] [] μ (fun r μ' => r = some (.int (μ 1 k)) ∧ μ' = z_up (z_up (z_up (m_rp (16 - s) s μ) 1 k v) 6 0 (upd (μ 1) k v 4)) 7 0 (upd (μ 1) k v 5)) := by
  generalize hf : 16 - s = f
  induction f using Nat.strongRecOn generalizing s μ
  rename_i f ih
  refine z_iload_n (pc := 60) dX7_rule_60 rfl ?_
  refine z_bipush (pc := 61) (v := (nI 16)) dX7_rule_61 (by decide) ?_
  refine z_icmp_ge (pc := 63) (tgt := 113) dX7_rule_63 (by decide) (fun h63 => ?_) (fun h63 => ?_)
  · have q63 : f = 0 := by have := (nI_leI (by decide) (by omega)).mp h63; omega
    refine z_aload_n (pc := 113) dX7_rule_113 rfl ?_
    refine z_getA (pc := 114) f_X7_7 dX7_rule_114 (by decide) rfl rfl ?_
    refine z_iload_n (pc := 117) dX7_rule_117 rfl ?_
    refine z_ialdN (pc := 118) dX7_rule_118 (by decide) rfl (by decide) (hk) ?_
    refine z_istore_n (pc := 119) dX7_rule_119 (by decide) rfl rfl ?_
    refine z_aload_n (pc := 120) dX7_rule_120 rfl ?_
    refine z_getA (pc := 121) f_X7_7 dX7_rule_121 (by decide) rfl rfl ?_
    refine z_iload_n (pc := 124) dX7_rule_124 rfl ?_
    refine z_iload_n (pc := 125) dX7_rule_125 rfl ?_
    refine z_iastN (pc := 126) dX7_rule_126 (by decide) rfl (by decide) (hk) ?_
    refine z_aload_n (pc := 127) dX7_rule_127 rfl ?_
    refine z_cV0 (pc := 128) mX7_takesMarks l_X7_105 (by decide) dX7_rule_128 (by decide) rfl rfl (by decide) (Nat.le_of_ble_eq_true rfl) (m_takesMarks) rfl (fun r128 σ128 hr128 => ?_)
    obtain ⟨er128, eσ128⟩ := hr128
    subst er128
    refine z_iload_n (pc := 131) dX7_rule_131 rfl ?_
    exact z_ireturn (pc := 132) dX7_rule_132 rfl rfl (⟨rfl, eσ128.trans (by rw [q63, m_rp, z_up_same])⟩)
  · have q63 : s < 16 := by have : ¬ 16 ≤ s := fun q => h63 ((nI_leI (by decide) (by omega)).mpr q); omega
    have hf1 : f = (16 - (s + 1)) + 1 := by omega
    refine z_aload_n (pc := 66) dX7_rule_66 rfl ?_
    refine z_getA (pc := 67) f_X7_31 dX7_rule_67 (by decide) rfl rfl ?_
    refine z_iload_n (pc := 70) dX7_rule_70 rfl ?_
    refine z_aload_n (pc := 71) dX7_rule_71 rfl ?_
    refine z_aload_n (pc := 72) dX7_rule_72 rfl ?_
    refine z_getA (pc := 73) f_X7_31 dX7_rule_73 (by decide) rfl rfl ?_
    refine z_iload_n (pc := 76) dX7_rule_76 rfl ?_
    refine z_ialdN (pc := 77) dX7_rule_77 (by decide) rfl (by decide) (by omega) ?_
    refine z_aload_n (pc := 78) dX7_rule_78 rfl ?_
    refine z_getA (pc := 79) f_X7_22 dX7_rule_79 (by decide) rfl rfl ?_
    refine z_iconst (pc := 82) (v := (nI 0)) dX7_rule_82 (by decide) ?_
    refine z_ialdN (pc := 83) dX7_rule_83 (by decide) rfl (by decide) (by decide) ?_
    refine z_aload_n (pc := 84) dX7_rule_84 rfl ?_
    refine z_getA (pc := 85) f_X7_34 dX7_rule_85 (by decide) rfl rfl ?_
    refine z_iload_n (pc := 88) dX7_rule_88 rfl ?_
    refine z_ialdN (pc := 89) dX7_rule_89 (by decide) rfl (by decide) (by omega) ?_
    refine z_isub (pc := 90) dX7_rule_90 ?_
    refine z_cV2 (pc := 91) mX7_fades l_X7_112 (by decide) dX7_rule_91 (by decide) rfl rfl (by decide) (Nat.le_of_ble_eq_true rfl) (m_fades hh h1 h2) rfl (fun r91 σ91 hr91 => ?_)
    obtain ⟨rfl, rfl⟩ := hr91
    rw [← hh]
    refine z_iastN (pc := 94) dX7_rule_94 (by decide) rfl (by decide) (by omega) ?_
    refine z_aload_n (pc := 95) dX7_rule_95 rfl ?_
    refine z_getA (pc := 96) f_X7_34 dX7_rule_96 (by decide) rfl rfl ?_
    refine z_iload_n (pc := 99) dX7_rule_99 rfl ?_
    refine z_aload_n (pc := 100) dX7_rule_100 rfl ?_
    refine z_getA (pc := 101) f_X7_22 dX7_rule_101 (by decide) rfl rfl ?_
    refine z_iconst (pc := 104) (v := (nI 0)) dX7_rule_104 (by decide) ?_
    refine z_ialdN (pc := 105) dX7_rule_105 (by decide) rfl (by decide) (by decide) ?_
    simp only [z_up_at, reduceIte, Nat.reduceEqDiff]
    refine z_iastN (pc := 106) dX7_rule_106 (by decide) rfl (by decide) (by omega) ?_
    refine z_iincN (pc := 107) dX7_rule_107 rfl (by decide) rfl rfl ?_
    refine z_goto (pc := 110) (tgt := 60) dX7_rule_110 (by decide) ?_
    exact (ih _ (by omega) (s := s + 1) (by omega) (by rw [z_up_ne _ _ _ (by decide), z_up_ne _ _ _ (by decide)]; exact hh) rfl).mono (fun r μ' g => ⟨g.1.trans (by rw [z_up_ne _ _ _ (by decide), z_up_ne _ _ _ (by decide)]), g.2.trans (by rw [hf1, m_rp, z_up_ne _ _ _ (by decide), z_up_ne _ _ _ (by decide)]; rfl)⟩)
set_option maxRecDepth 20000 in
theorem m_rule {μ : z_Sto} {n e h t : Nat} {w v : Int32} {T O : Nat → List Nat} (H : m_inv μ n e h t T O) : z_R layM iX7_rule 0 [some (.ref 0), some (.int w), some (.int v), none] [] μ (fun r μ' => (¬ m_adm μ w v ∧ r = some (.int (-2)) ∧ μ' = μ) ∨ (∃ k, k < 8 ∧ w = nI k ∧ m_adm μ w v ∧ r = some (.int (μ 1 k)) ∧ μ' = m_rul k v μ)) := by
  refine z_iload_n (pc := 0) dX7_rule_0 rfl ?_
  refine z_iconst (pc := 1) (v := (nI 0)) dX7_rule_1 (by decide) ?_
  refine z_bipush (pc := 2) (v := (nI 7)) dX7_rule_2 (by decide) ?_
  refine z_cS3 (pc := 4) mX7_in l_X7_124 (by decide) dX7_rule_4 (by decide) (Nat.le_of_ble_eq_true rfl) (m_in) rfl (fun r4 σ4 hr4 => ?_)
  obtain ⟨v4, rfl, g1, g2, rfl⟩ := hr4
  refine z_if_eq (pc := 7) (tgt := 55) dX7_rule_7 (by decide) (fun h7 => ?_) (fun h7 => ?_)
  · have nn : ¬ m_adm σ4 w v := fun ⟨k, hk, e, _⟩ => g2 h7 ((m_in_k (m := 7) (by decide)).mpr ⟨k, hk, e⟩)
    refine z_bipush (pc := 55) (v := (-2)) dX7_rule_55 (by decide) ?_
    exact z_ireturn (pc := 57) dX7_rule_57 rfl rfl (Or.inl ⟨nn, rfl, rfl⟩)
  · obtain ⟨k, hk, rfl⟩ := (m_in_k (m := 7) (by decide)).mp (g1 h7)
    refine z_iload_n (pc := 10) dX7_rule_10 rfl ?_
    refine z_iload_n (pc := 11) dX7_rule_11 rfl ?_
    refine z_cS1 (pc := 12) mX7_least l_X7_133 (by decide) dX7_rule_12 (by decide) (Nat.le_of_ble_eq_true rfl) (m_least0 hk) rfl (fun r12 σ12 hr12 => ?_)
    obtain ⟨rfl, rfl⟩ := hr12
    rw [m_least_eq hk]
    refine z_iload_n (pc := 15) dX7_rule_15 rfl ?_
    refine z_cS1 (pc := 16) mX7_most l_X7_137 (by decide) dX7_rule_16 (by decide) (Nat.le_of_ble_eq_true rfl) (m_most0 hk) rfl (fun r16 σ16 hr16 => ?_)
    obtain ⟨rfl, rfl⟩ := hr16
    rw [m_most_eq hk]
    refine z_cS3 (pc := 19) mX7_in l_X7_124 (by decide) dX7_rule_19 (by decide) (Nat.le_of_ble_eq_true rfl) (m_in) rfl (fun r19 σ19 hr19 => ?_)
    obtain ⟨v19, rfl, g3, g4, rfl⟩ := hr19
    refine z_if_eq (pc := 22) (tgt := 55) dX7_rule_22 (by decide) (fun h22 => ?_) (fun h22 => ?_)
    · have nn : ¬ m_adm σ19 (nI k) v := fun q => g4 h22 ⟨((m_adm_iff hk).mp q).1, ((m_adm_iff hk).mp q).2.1⟩
      refine z_bipush (pc := 55) (v := (-2)) dX7_rule_55 (by decide) ?_
      exact z_ireturn (pc := 57) dX7_rule_57 rfl rfl (Or.inl ⟨nn, rfl, rfl⟩)
    · refine z_iload_n (pc := 25) dX7_rule_25 rfl ?_
      refine z_iconst (pc := 26) (v := (nI 4)) dX7_rule_26 (by decide) ?_
      refine z_icmp_ne (pc := 27) (tgt := 40) dX7_rule_27 (by decide) (fun h27 => ?_) (fun h27 => ?_)
      · have q27 : ¬ k = 4 := fun q => h27 (by rw [q])
        refine z_iload_n (pc := 40) dX7_rule_40 rfl ?_
        refine z_iconst (pc := 41) (v := (nI 5)) dX7_rule_41 (by decide) ?_
        refine z_icmp_ne (pc := 42) (tgt := 58) dX7_rule_42 (by decide) (fun h42 => ?_) (fun h42 => ?_)
        · have q42 : ¬ k = 5 := fun q => h42 (by rw [q])
          refine z_iconst (pc := 58) (v := (nI 0)) dX7_rule_58 (by decide) ?_
          refine z_istore_n (pc := 59) dX7_rule_59 (by decide) rfl rfl ?_
          exact (m_rl60 (s := 0) hk (by decide) H.1.2.2.2.2.2.2.1 H.1.2.2.2.2.2.2.2.1 H.1.2.2.2.2.2.2.2.2.1).mono (fun r μ' u => Or.inr ⟨k, hk, rfl, (m_adm_iff hk).mpr ⟨(g3 h22).1, (g3 h22).2, fun q => by first | exact absurd q q27 | exact z_nlt h37, fun q => by first | exact absurd q q42 | exact h52⟩, u.1, u.2⟩)
        · have q42 : k = 5 := z_nI_inj (by omega) (by decide) h42
          refine z_iload_n (pc := 45) dX7_rule_45 rfl ?_
          refine z_aload_n (pc := 46) dX7_rule_46 rfl ?_
          refine z_getA (pc := 47) f_X7_7 dX7_rule_47 (by decide) rfl rfl ?_
          refine z_iconst (pc := 50) (v := (nI 4)) dX7_rule_50 (by decide) ?_
          refine z_ialdN (pc := 51) dX7_rule_51 (by decide) rfl (by decide) (by decide) ?_
          refine z_icmp_le (pc := 52) (tgt := 58) dX7_rule_52 (by decide) (fun h52 => ?_) (fun h52 => ?_)
          · refine z_iconst (pc := 58) (v := (nI 0)) dX7_rule_58 (by decide) ?_
            refine z_istore_n (pc := 59) dX7_rule_59 (by decide) rfl rfl ?_
            exact (m_rl60 (s := 0) hk (by decide) H.1.2.2.2.2.2.2.1 H.1.2.2.2.2.2.2.2.1 H.1.2.2.2.2.2.2.2.2.1).mono (fun r μ' u => Or.inr ⟨k, hk, rfl, (m_adm_iff hk).mpr ⟨(g3 h22).1, (g3 h22).2, fun q => by first | exact absurd q q27 | exact z_nlt h37, fun q => by first | exact absurd q q42 | exact h52⟩, u.1, u.2⟩)
          · have nn : ¬ m_adm σ19 (nI k) v := fun q => h52 (((m_adm_iff hk).mp q).2.2.2 q42)
            refine z_bipush (pc := 55) (v := (-2)) dX7_rule_55 (by decide) ?_
            exact z_ireturn (pc := 57) dX7_rule_57 rfl rfl (Or.inl ⟨nn, rfl, rfl⟩)
      · have q27 : k = 4 := z_nI_inj (by omega) (by decide) h27
        refine z_iload_n (pc := 30) dX7_rule_30 rfl ?_
        refine z_aload_n (pc := 31) dX7_rule_31 rfl ?_
        refine z_getA (pc := 32) f_X7_7 dX7_rule_32 (by decide) rfl rfl ?_
        refine z_iconst (pc := 35) (v := (nI 5)) dX7_rule_35 (by decide) ?_
        refine z_ialdN (pc := 36) dX7_rule_36 (by decide) rfl (by decide) (by decide) ?_
        refine z_icmp_lt (pc := 37) (tgt := 55) dX7_rule_37 (by decide) (fun h37 => ?_) (fun h37 => ?_)
        · have nn : ¬ m_adm σ19 (nI k) v := fun q => z_nle h37 (((m_adm_iff hk).mp q).2.2.1 q27)
          refine z_bipush (pc := 55) (v := (-2)) dX7_rule_55 (by decide) ?_
          exact z_ireturn (pc := 57) dX7_rule_57 rfl rfl (Or.inl ⟨nn, rfl, rfl⟩)
        · refine z_iload_n (pc := 40) dX7_rule_40 rfl ?_
          refine z_iconst (pc := 41) (v := (nI 5)) dX7_rule_41 (by decide) ?_
          refine z_icmp_ne (pc := 42) (tgt := 58) dX7_rule_42 (by decide) (fun h42 => ?_) (fun h42 => ?_)
          · have q42 : ¬ k = 5 := fun q => h42 (by rw [q])
            refine z_iconst (pc := 58) (v := (nI 0)) dX7_rule_58 (by decide) ?_
            refine z_istore_n (pc := 59) dX7_rule_59 (by decide) rfl rfl ?_
            exact (m_rl60 (s := 0) hk (by decide) H.1.2.2.2.2.2.2.1 H.1.2.2.2.2.2.2.2.1 H.1.2.2.2.2.2.2.2.2.1).mono (fun r μ' u => Or.inr ⟨k, hk, rfl, (m_adm_iff hk).mpr ⟨(g3 h22).1, (g3 h22).2, fun q => by first | exact absurd q q27 | exact z_nlt h37, fun q => by first | exact absurd q q42 | exact h52⟩, u.1, u.2⟩)
          · have q42 : k = 5 := z_nI_inj (by omega) (by decide) h42
            refine z_iload_n (pc := 45) dX7_rule_45 rfl ?_
            refine z_aload_n (pc := 46) dX7_rule_46 rfl ?_
            refine z_getA (pc := 47) f_X7_7 dX7_rule_47 (by decide) rfl rfl ?_
            refine z_iconst (pc := 50) (v := (nI 4)) dX7_rule_50 (by decide) ?_
            refine z_ialdN (pc := 51) dX7_rule_51 (by decide) rfl (by decide) (by decide) ?_
            refine z_icmp_le (pc := 52) (tgt := 58) dX7_rule_52 (by decide) (fun h52 => ?_) (fun h52 => ?_)
            · refine z_iconst (pc := 58) (v := (nI 0)) dX7_rule_58 (by decide) ?_
              refine z_istore_n (pc := 59) dX7_rule_59 (by decide) rfl rfl ?_
              exact (m_rl60 (s := 0) hk (by decide) H.1.2.2.2.2.2.2.1 H.1.2.2.2.2.2.2.2.1 H.1.2.2.2.2.2.2.2.2.1).mono (fun r μ' u => Or.inr ⟨k, hk, rfl, (m_adm_iff hk).mpr ⟨(g3 h22).1, (g3 h22).2, fun q => by first | exact absurd q q27 | exact z_nlt h37, fun q => by first | exact absurd q q42 | exact h52⟩, u.1, u.2⟩)
            · have nn : ¬ m_adm σ19 (nI k) v := fun q => h52 (((m_adm_iff hk).mp q).2.2.2 q42)
              refine z_bipush (pc := 55) (v := (-2)) dX7_rule_55 (by decide) ?_
              exact z_ireturn (pc := 57) dX7_rule_57 rfl rfl (Or.inl ⟨nn, rfl, rfl⟩)
