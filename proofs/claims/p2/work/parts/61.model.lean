/-! the reference: bearers, looks, begins, happens -/
def m_b (μ : z_Sto) (l : Nat) : Nat := if μ 2 l = nI 1 then 12 + (μ 3 l).toNatClampNeg else l
def m_bok (μ : z_Sto) (l : Nat) : Prop := μ 2 l = nI 1 → ∃ g, g < 4 ∧ μ 3 l = nI g
theorem m_b_lt {μ : z_Sto} {l : Nat} (h : m_bok μ l) (hl : l < 12) : m_b μ l < 16 := by
  unfold m_b
  split
  · rename_i e
    obtain ⟨g, hg, eg⟩ := h e
    rw [eg, z_cl (by omega)]
    omega
  · omega
set_option maxRecDepth 20000 in
theorem m_bearer {μ : z_Sto} {w l : Nat} (hl : l < 12) (hb : m_bok μ l) : z_R layM iX7_bearer 0 [some (.ref 0), some (.int (nI w)), some (.int (nI l))] [] μ (fun r μ' => r = some (.int (nI (16 * w + m_b μ l))) ∧ μ' = μ) := by
  refine z_bipush (pc := 0) (v := (nI 16)) dX7_bearer_0 (by decide) ?_
  refine z_iload_n (pc := 2) dX7_bearer_2 rfl ?_
  refine z_imulN (pc := 3) dX7_bearer_3 ?_
  refine z_aload_n (pc := 4) dX7_bearer_4 rfl ?_
  refine z_getA (pc := 5) f_X7_13 dX7_bearer_5 (by decide) rfl rfl ?_
  refine z_iload_n (pc := 8) dX7_bearer_8 rfl ?_
  refine z_ialdN (pc := 9) dX7_bearer_9 (by decide) rfl (by decide) (hl) ?_
  refine z_iconst (pc := 10) (v := (nI 1)) dX7_bearer_10 (by decide) ?_
  refine z_icmp_ne (pc := 11) (tgt := 26) dX7_bearer_11 (by decide) (fun h11 => ?_) (fun h11 => ?_)
  · refine z_iload_n (pc := 26) dX7_bearer_26 rfl ?_
    refine z_iaddN (pc := 27) dX7_bearer_27 ?_
    exact z_ireturn (pc := 28) dX7_bearer_28 rfl rfl (⟨by first | rw [m_b, if_pos h11, eg, z_cl (by omega)] | rw [m_b, if_neg h11], rfl⟩)
  · obtain ⟨g, hg, eg⟩ := hb h11
    refine z_bipush (pc := 14) (v := (nI 12)) dX7_bearer_14 (by decide) ?_
    refine z_aload_n (pc := 16) dX7_bearer_16 rfl ?_
    refine z_getA (pc := 17) f_X7_16 dX7_bearer_17 (by decide) rfl rfl ?_
    refine z_iload_n (pc := 20) dX7_bearer_20 rfl ?_
    refine z_ialdN (pc := 21) dX7_bearer_21 (by decide) rfl (by decide) (hl) ?_
    rw [eg]
    refine z_iaddN (pc := 22) dX7_bearer_22 ?_
    refine z_goto (pc := 23) (tgt := 27) dX7_bearer_23 (by decide) ?_
    refine z_iaddN (pc := 27) dX7_bearer_27 ?_
    exact z_ireturn (pc := 28) dX7_bearer_28 rfl rfl (⟨by first | rw [m_b, if_pos h11, eg, z_cl (by omega)] | rw [m_b, if_neg h11], rfl⟩)
def m_pen (w l : Nat) (μ : z_Sto) : Int32 := m_fade (μ 8 (16 * w + m_b μ l)) (μ 5 w - μ 9 (16 * w + m_b μ l)) (μ 1 3)
set_option maxRecDepth 20000 in
theorem m_penaltyNow {μ : z_Sto} {w l h : Nat} (hw : w < 2) (hl : l < 12) (hb : m_bok μ l) (hh : μ 1 3 = nI h) (h1 : 1 ≤ h) (h2 : h ≤ 500) : z_R layM iX7_penaltyNow 0 [some (.ref 0), some (.int (nI w)), some (.int (nI l)), none] [] μ (fun r μ' => r = some (.int (m_pen w l μ)) ∧ μ' = μ) := by
  have hbl := m_b_lt hb hl
  refine z_aload_n (pc := 0) dX7_penaltyNow_0 rfl ?_
  refine z_iload_n (pc := 1) dX7_penaltyNow_1 rfl ?_
  refine z_iload_n (pc := 2) dX7_penaltyNow_2 rfl ?_
  refine z_cV2 (pc := 3) mX7_bearer l_X7_108 (by decide) dX7_penaltyNow_3 (by decide) rfl rfl (by decide) (Nat.le_of_ble_eq_true rfl) (m_bearer hl hb) rfl (fun r3 σ3 hr3 => ?_)
  obtain ⟨rfl, rfl⟩ := hr3
  refine z_istore_n (pc := 6) dX7_penaltyNow_6 (by decide) rfl rfl ?_
  refine z_aload_n (pc := 7) dX7_penaltyNow_7 rfl ?_
  refine z_aload_n (pc := 8) dX7_penaltyNow_8 rfl ?_
  refine z_getA (pc := 9) f_X7_31 dX7_penaltyNow_9 (by decide) rfl rfl ?_
  refine z_iload_n (pc := 12) dX7_penaltyNow_12 rfl ?_
  refine z_ialdN (pc := 13) dX7_penaltyNow_13 (by decide) rfl (by decide) (by omega) ?_
  refine z_aload_n (pc := 14) dX7_penaltyNow_14 rfl ?_
  refine z_getA (pc := 15) f_X7_22 dX7_penaltyNow_15 (by decide) rfl rfl ?_
  refine z_iload_n (pc := 18) dX7_penaltyNow_18 rfl ?_
  refine z_ialdN (pc := 19) dX7_penaltyNow_19 (by decide) rfl (by decide) (hw) ?_
  refine z_aload_n (pc := 20) dX7_penaltyNow_20 rfl ?_
  refine z_getA (pc := 21) f_X7_34 dX7_penaltyNow_21 (by decide) rfl rfl ?_
  refine z_iload_n (pc := 24) dX7_penaltyNow_24 rfl ?_
  refine z_ialdN (pc := 25) dX7_penaltyNow_25 (by decide) rfl (by decide) (by omega) ?_
  refine z_isub (pc := 26) dX7_penaltyNow_26 ?_
  refine z_cV2 (pc := 27) mX7_fades l_X7_112 (by decide) dX7_penaltyNow_27 (by decide) rfl rfl (by decide) (Nat.le_of_ble_eq_true rfl) (m_fades hh h1 h2) rfl (fun r27 σ27 hr27 => ?_)
  obtain ⟨rfl, rfl⟩ := hr27
  exact z_ireturn (pc := 30) dX7_penaltyNow_30 rfl rfl (⟨by rw [m_pen, hh], rfl⟩)
def m_sn (w l : Nat) (μ : z_Sto) : Int32 := if μ 11 (12 * w + l) = 0 then nI 0 else if μ 10 (16 * w + m_b μ l) = 0 then nI 1 else nI 0
theorem m_sn01 {w l : Nat} {μ : z_Sto} : z_01 (m_sn w l μ) := by
  unfold m_sn
  split
  · exact Or.inl rfl
  · split
    · exact Or.inr rfl
    · exact Or.inl rfl
set_option maxRecDepth 20000 in
theorem m_isSeen {μ : z_Sto} {w l : Nat} (hw : w < 2) (hl : l < 12) (hb : m_bok μ l) : z_R layM iX7_isSeen 0 [some (.ref 0), some (.int (nI w)), some (.int (nI l))] [] μ (fun r μ' => r = some (.int (m_sn w l μ)) ∧ μ' = μ) := by
  have hbl := m_b_lt hb hl
  refine z_aload_n (pc := 0) dX7_isSeen_0 rfl ?_
  refine z_getA (pc := 1) f_X7_41 dX7_isSeen_1 (by decide) rfl rfl ?_
  refine z_bipush (pc := 4) (v := (nI 12)) dX7_isSeen_4 (by decide) ?_
  refine z_iload_n (pc := 6) dX7_isSeen_6 rfl ?_
  refine z_imulN (pc := 7) dX7_isSeen_7 ?_
  refine z_iload_n (pc := 8) dX7_isSeen_8 rfl ?_
  refine z_iaddN (pc := 9) dX7_isSeen_9 ?_
  refine z_zaldN (pc := 10) dX7_isSeen_10 (by decide) rfl (by decide) (by omega) ?_
  refine z_if_eq (pc := 11) (tgt := 32) dX7_isSeen_11 (by decide) (fun h11 => ?_) (fun h11 => ?_)
  · refine z_iconst (pc := 32) (v := (nI 0)) dX7_isSeen_32 (by decide) ?_
    exact z_ireturn (pc := 33) dX7_isSeen_33 rfl (by decide) (⟨by first | rw [m_sn, if_pos h11] | rw [m_sn, if_neg h11, if_neg h25] | rw [m_sn, if_neg h11, if_pos h25], rfl⟩)
  · refine z_aload_n (pc := 14) dX7_isSeen_14 rfl ?_
    refine z_getA (pc := 15) f_X7_37 dX7_isSeen_15 (by decide) rfl rfl ?_
    refine z_aload_n (pc := 18) dX7_isSeen_18 rfl ?_
    refine z_iload_n (pc := 19) dX7_isSeen_19 rfl ?_
    refine z_iload_n (pc := 20) dX7_isSeen_20 rfl ?_
    refine z_cV2 (pc := 21) mX7_bearer l_X7_108 (by decide) dX7_isSeen_21 (by decide) rfl rfl (by decide) (Nat.le_of_ble_eq_true rfl) (m_bearer hl hb) rfl (fun r21 σ21 hr21 => ?_)
    obtain ⟨rfl, rfl⟩ := hr21
    refine z_zaldN (pc := 24) dX7_isSeen_24 (by decide) rfl (by decide) (by omega) ?_
    refine z_if_ne (pc := 25) (tgt := 32) dX7_isSeen_25 (by decide) (fun h25 => ?_) (fun h25 => ?_)
    · refine z_iconst (pc := 32) (v := (nI 0)) dX7_isSeen_32 (by decide) ?_
      exact z_ireturn (pc := 33) dX7_isSeen_33 rfl (by decide) (⟨by first | rw [m_sn, if_pos h11] | rw [m_sn, if_neg h11, if_neg h25] | rw [m_sn, if_neg h11, if_pos h25], rfl⟩)
    · refine z_iconst (pc := 28) (v := (nI 1)) dX7_isSeen_28 (by decide) ?_
      refine z_goto (pc := 29) (tgt := 33) dX7_isSeen_29 (by decide) ?_
      exact z_ireturn (pc := 33) dX7_isSeen_33 rfl (by decide) (⟨by first | rw [m_sn, if_pos h11] | rw [m_sn, if_neg h11, if_neg h25] | rw [m_sn, if_neg h11, if_pos h25], rfl⟩)
def m_l1 (w l : Nat) (μ : z_Sto) : z_Sto := z_up (z_up μ 13 (12 * w + l) (μ 13 (12 * w + l) + (if m_sn w l μ = μ 12 (12 * w + l) then nI 0 else nI 1))) 12 (12 * w + l) (m_sn w l μ)
def m_lk (w : Nat) : Nat → Nat → z_Sto → z_Sto
  | 0, _, μ => μ
  | f + 1, l, μ => m_lk w f (l + 1) (m_l1 w l μ)
theorem m_l1_fr {w l c : Nat} {μ : z_Sto} (h : c ≠ 12 ∧ c ≠ 13) : m_l1 w l μ c = μ c := by
  rw [m_l1, z_up_ne _ _ _ h.1, z_up_ne _ _ _ h.2]
theorem m_lk_fr {w c : Nat} (h : c ≠ 12 ∧ c ≠ 13) : ∀ (f l : Nat) (μ : z_Sto), m_lk w f l μ c = μ c
  | 0, _, _ => rfl
  | f + 1, l, μ => by rw [m_lk, m_lk_fr h f, m_l1_fr h]
def m_bs (μ : z_Sto) (n : Nat) : Prop := ∀ l, l < n → m_bok μ l
theorem m_bs_fr {μ τ : z_Sto} {n : Nat} (h : m_bs μ n) (e2 : τ 2 = μ 2) (e3 : τ 3 = μ 3) : m_bs τ n := by
  intro l hl
  unfold m_bok
  rw [e2, e3]
  exact h l hl
set_option maxRecDepth 20000 in
theorem m_lkl {μ : z_Sto} {w l n : Nat} {v3 : Option Value} (hw : w < 2) (hn : μ 0 1 = nI n) (h12 : n ≤ 12) (hb : m_bs μ n) (hl : l ≤ n) : z_R layM iX7_looks 2 [some (.ref 0), some (.int (nI w)), some (.int (nI l)), v3] [] μ (fun r μ' => r = none ∧ μ' = m_lk w (n - l) l μ) := by
  generalize hf : n - l = f
  induction f using Nat.strongRecOn generalizing l μ v3
  rename_i f ih
  refine z_iload_n (pc := 2) dX7_looks_2 rfl ?_
  refine z_aload_n (pc := 3) dX7_looks_3 rfl ?_
  refine z_getI (pc := 4) f_X7_115 dX7_looks_4 (by decide) rfl rfl ?_
  rw [hn]
  refine z_icmp_ge (pc := 7) (tgt := 69) dX7_looks_7 (by decide) (fun h7 => ?_) (fun h7 => ?_)
  · have q7 : f = 0 := by have := (nI_leI (by omega) (by omega)).mp h7; omega
    exact z_return (pc := 69) dX7_looks_69 rfl (⟨rfl, by rw [q7]; rfl⟩)
  · have q7 : l < n := by have : ¬ n ≤ l := fun q => h7 ((nI_leI (by omega) (by omega)).mpr q); omega
    have hf1 : f = (n - (l + 1)) + 1 := by omega
    refine z_aload_n (pc := 10) dX7_looks_10 rfl ?_
    refine z_iload_n (pc := 11) dX7_looks_11 rfl ?_
    refine z_iload_n (pc := 12) dX7_looks_12 rfl ?_
    refine z_cV2 (pc := 13) mX7_isSeen l_X7_119 (by decide) dX7_looks_13 (by decide) rfl rfl (by decide) (Nat.le_of_ble_eq_true rfl) (m_isSeen hw (by omega) (hb l q7)) rfl (fun r13 σ13 hr13 => ?_)
    obtain ⟨rfl, rfl⟩ := hr13
    refine z_istore_n (pc := 16) dX7_looks_16 (by decide) rfl rfl ?_
    refine z_aload_n (pc := 17) dX7_looks_17 rfl ?_
    refine z_getA (pc := 18) f_X7_47 dX7_looks_18 (by decide) rfl rfl ?_
    refine z_bipush (pc := 21) (v := (nI 12)) dX7_looks_21 (by decide) ?_
    refine z_iload_n (pc := 23) dX7_looks_23 rfl ?_
    refine z_imulN (pc := 24) dX7_looks_24 ?_
    refine z_iload_n (pc := 25) dX7_looks_25 rfl ?_
    refine z_iaddN (pc := 26) dX7_looks_26 ?_
    refine z_dup2 (pc := 27) dX7_looks_27 ?_
    refine z_ialdN (pc := 28) dX7_looks_28 (by decide) rfl (by decide) (by omega) ?_
    refine z_iload_n (pc := 29) dX7_looks_29 rfl ?_
    refine z_aload_n (pc := 30) dX7_looks_30 rfl ?_
    refine z_getA (pc := 31) f_X7_44 dX7_looks_31 (by decide) rfl rfl ?_
    refine z_bipush (pc := 34) (v := (nI 12)) dX7_looks_34 (by decide) ?_
    refine z_iload_n (pc := 36) dX7_looks_36 rfl ?_
    refine z_imulN (pc := 37) dX7_looks_37 ?_
    refine z_iload_n (pc := 38) dX7_looks_38 rfl ?_
    refine z_iaddN (pc := 39) dX7_looks_39 ?_
    refine z_zaldN (pc := 40) dX7_looks_40 (by decide) rfl (by decide) (by omega) ?_
    refine z_icmp_eq (pc := 41) (tgt := 48) dX7_looks_41 (by decide) (fun h41 => ?_) (fun h41 => ?_)
    · refine z_iconst (pc := 48) (v := (nI 0)) dX7_looks_48 (by decide) ?_
      refine z_iadd (pc := 49) dX7_looks_49 ?_
      refine z_iastN (pc := 50) dX7_looks_50 (by decide) rfl (by decide) (by omega) ?_
      refine z_aload_n (pc := 51) dX7_looks_51 rfl ?_
      refine z_getA (pc := 52) f_X7_44 dX7_looks_52 (by decide) rfl rfl ?_
      refine z_bipush (pc := 55) (v := (nI 12)) dX7_looks_55 (by decide) ?_
      refine z_iload_n (pc := 57) dX7_looks_57 rfl ?_
      refine z_imulN (pc := 58) dX7_looks_58 ?_
      refine z_iload_n (pc := 59) dX7_looks_59 rfl ?_
      refine z_iaddN (pc := 60) dX7_looks_60 ?_
      refine z_iload_n (pc := 61) dX7_looks_61 rfl ?_
      refine z_zastN (pc := 62) dX7_looks_62 (by decide) rfl (by decide) (by omega) (m_sn01) ?_
      refine z_iincN (pc := 63) dX7_looks_63 rfl (by decide) rfl rfl ?_
      refine z_goto (pc := 66) (tgt := 2) dX7_looks_66 (by decide) ?_
      exact (ih _ (by omega) (l := l + 1) (by simp only [z_up_at, reduceIte, Nat.reduceEqDiff]; exact hn) (m_bs_fr hb (by rw [z_up_ne _ _ _ (by decide), z_up_ne _ _ _ (by decide)]) (by rw [z_up_ne _ _ _ (by decide), z_up_ne _ _ _ (by decide)])) (by omega) rfl).mono (fun r μ' g => ⟨g.1, g.2.trans (by rw [hf1, m_lk, m_l1]; first | rw [if_pos h41] | rw [if_neg h41])⟩)
    · refine z_iconst (pc := 44) (v := (nI 1)) dX7_looks_44 (by decide) ?_
      refine z_goto (pc := 45) (tgt := 49) dX7_looks_45 (by decide) ?_
      refine z_iadd (pc := 49) dX7_looks_49 ?_
      refine z_iastN (pc := 50) dX7_looks_50 (by decide) rfl (by decide) (by omega) ?_
      refine z_aload_n (pc := 51) dX7_looks_51 rfl ?_
      refine z_getA (pc := 52) f_X7_44 dX7_looks_52 (by decide) rfl rfl ?_
      refine z_bipush (pc := 55) (v := (nI 12)) dX7_looks_55 (by decide) ?_
      refine z_iload_n (pc := 57) dX7_looks_57 rfl ?_
      refine z_imulN (pc := 58) dX7_looks_58 ?_
      refine z_iload_n (pc := 59) dX7_looks_59 rfl ?_
      refine z_iaddN (pc := 60) dX7_looks_60 ?_
      refine z_iload_n (pc := 61) dX7_looks_61 rfl ?_
      refine z_zastN (pc := 62) dX7_looks_62 (by decide) rfl (by decide) (by omega) (m_sn01) ?_
      refine z_iincN (pc := 63) dX7_looks_63 rfl (by decide) rfl rfl ?_
      refine z_goto (pc := 66) (tgt := 2) dX7_looks_66 (by decide) ?_
      exact (ih _ (by omega) (l := l + 1) (by simp only [z_up_at, reduceIte, Nat.reduceEqDiff]; exact hn) (m_bs_fr hb (by rw [z_up_ne _ _ _ (by decide), z_up_ne _ _ _ (by decide)]) (by rw [z_up_ne _ _ _ (by decide), z_up_ne _ _ _ (by decide)])) (by omega) rfl).mono (fun r μ' g => ⟨g.1, g.2.trans (by rw [hf1, m_lk, m_l1]; first | rw [if_pos h41] | rw [if_neg h41])⟩)
set_option maxRecDepth 20000 in
theorem m_looks {μ : z_Sto} {w n : Nat} (hw : w < 2) (hn : μ 0 1 = nI n) (h12 : n ≤ 12) (hb : m_bs μ n) : z_R layM iX7_looks 0 [some (.ref 0), some (.int (nI w)), none, none] [] μ (fun r μ' => r = none ∧ μ' = m_lk w n 0 μ) := by
  refine z_iconst (pc := 0) (v := (nI 0)) dX7_looks_0 (by decide) ?_
  refine z_istore_n (pc := 1) dX7_looks_1 (by decide) rfl rfl ?_
  exact m_lkl (l := 0) hw hn h12 hb (by omega)
def m_bg (x : Nat) (μ : z_Sto) : z_Sto := z_up (z_up (z_up (z_up μ 11 x (nI 1)) 13 x (nI 0)) 14 x (nI 0)) 15 x (-100000)
def m_beg (w l : Nat) (μ : z_Sto) : z_Sto := z_up (m_bg (12 * w + l) μ) 12 (12 * w + l) (m_sn w l (m_bg (12 * w + l) μ))
theorem m_bg_fr {x c : Nat} {μ : z_Sto} (h : c ≠ 11 ∧ c ≠ 13 ∧ c ≠ 14 ∧ c ≠ 15) : m_bg x μ c = μ c := by
  rw [m_bg, z_up_ne _ _ _ h.2.2.2, z_up_ne _ _ _ h.2.2.1, z_up_ne _ _ _ h.2.1, z_up_ne _ _ _ h.1]
theorem m_beg_fr {w l c : Nat} {μ : z_Sto} (h : c < 11 ∨ 15 < c) : m_beg w l μ c = μ c := by
  rw [m_beg, z_up_ne _ _ _ (by omega), m_bg_fr (by omega)]
set_option maxRecDepth 20000 in
theorem m_begins {μ : z_Sto} {w l : Nat} (hw : w < 2) (hl : l < 12) (hb : m_bok μ l) : z_R layM iX7_begins 0 [some (.ref 0), some (.int (nI w)), some (.int (nI l)), none] [] μ (fun r μ' => r = none ∧ μ' = m_beg w l μ) := by
  refine z_bipush (pc := 0) (v := (nI 12)) dX7_begins_0 (by decide) ?_
  refine z_iload_n (pc := 2) dX7_begins_2 rfl ?_
  refine z_imulN (pc := 3) dX7_begins_3 ?_
  refine z_iload_n (pc := 4) dX7_begins_4 rfl ?_
  refine z_iaddN (pc := 5) dX7_begins_5 ?_
  refine z_istore_n (pc := 6) dX7_begins_6 (by decide) rfl rfl ?_
  refine z_aload_n (pc := 7) dX7_begins_7 rfl ?_
  refine z_getA (pc := 8) f_X7_41 dX7_begins_8 (by decide) rfl rfl ?_
  refine z_iload_n (pc := 11) dX7_begins_11 rfl ?_
  refine z_iconst (pc := 12) (v := (nI 1)) dX7_begins_12 (by decide) ?_
  refine z_zastN (pc := 13) dX7_begins_13 (by decide) rfl (by decide) (by omega) (Or.inr rfl) ?_
  refine z_aload_n (pc := 14) dX7_begins_14 rfl ?_
  refine z_getA (pc := 15) f_X7_47 dX7_begins_15 (by decide) rfl rfl ?_
  refine z_iload_n (pc := 18) dX7_begins_18 rfl ?_
  refine z_iconst (pc := 19) (v := (nI 0)) dX7_begins_19 (by decide) ?_
  refine z_iastN (pc := 20) dX7_begins_20 (by decide) rfl (by decide) (by omega) ?_
  refine z_aload_n (pc := 21) dX7_begins_21 rfl ?_
  refine z_getA (pc := 22) f_X7_50 dX7_begins_22 (by decide) rfl rfl ?_
  refine z_iload_n (pc := 25) dX7_begins_25 rfl ?_
  refine z_iconst (pc := 26) (v := (nI 0)) dX7_begins_26 (by decide) ?_
  refine z_iastN (pc := 27) dX7_begins_27 (by decide) rfl (by decide) (by omega) ?_
  refine z_aload_n (pc := 28) dX7_begins_28 rfl ?_
  refine z_getA (pc := 29) f_X7_53 dX7_begins_29 (by decide) rfl rfl ?_
  refine z_iload_n (pc := 32) dX7_begins_32 rfl ?_
  refine z_ldc (pc := 33) k_X7_123 dX7_begins_33 ?_
  refine z_iastN (pc := 35) dX7_begins_35 (by decide) rfl (by decide) (by omega) ?_
  refine z_aload_n (pc := 36) dX7_begins_36 rfl ?_
  refine z_getA (pc := 37) f_X7_44 dX7_begins_37 (by decide) rfl rfl ?_
  refine z_iload_n (pc := 40) dX7_begins_40 rfl ?_
  refine z_aload_n (pc := 41) dX7_begins_41 rfl ?_
  refine z_iload_n (pc := 42) dX7_begins_42 rfl ?_
  refine z_iload_n (pc := 43) dX7_begins_43 rfl ?_
  refine z_cV2 (pc := 44) mX7_isSeen l_X7_119 (by decide) dX7_begins_44 (by decide) rfl rfl (by decide) (Nat.le_of_ble_eq_true rfl) (m_isSeen (μ := m_bg (12 * w + l) μ) hw hl (by unfold m_bok; rw [m_bg_fr (by decide), m_bg_fr (by decide)]; exact hb)) rfl (fun r44 σ44 hr44 => ?_)
  obtain ⟨er44, eσ44⟩ := hr44
  subst er44
  refine z_zastN (pc := 47) dX7_begins_47 (by decide) rfl (by decide) (by omega) (m_sn01) ?_
  exact z_return (pc := 48) dX7_begins_48 rfl (⟨rfl, by rw [eσ44]; rfl⟩)
def m_h4 (w b : Nat) (μ : z_Sto) : z_Sto := z_up μ 10 b (if μ 10 b = 0 ∧ μ 8 b ≤ μ 6 w then nI 0 else nI 1)
set_option maxRecDepth 20000 in
theorem m_hap170 {μ : z_Sto} {w l k x b n : Nat} {t fg p : Int32} (hw : w < 2) (hbb : b < 32) (hn : μ 0 1 = nI n) (h12 : n ≤ 12) (hb : m_bs μ n) : z_R layM iX7_happens 170 [some (.ref 0), some (.int (nI w)), some (.int (nI l)), some (.int (nI k)), some (.int (nI x)), some (.int (nI b)), some (.int t), some (.int fg), some (.int p)] [] μ (fun r μ' => r = none ∧ μ' = m_lk w n 0 (m_h4 w b μ)) := by
  refine z_aload_n (pc := 170) dX7_happens_170 rfl ?_
  refine z_getA (pc := 171) f_X7_37 dX7_happens_171 (by decide) rfl rfl ?_
  refine z_iload (pc := 174) dX7_happens_174 rfl ?_
  refine z_aload_n (pc := 176) dX7_happens_176 rfl ?_
  refine z_getA (pc := 177) f_X7_37 dX7_happens_177 (by decide) rfl rfl ?_
  refine z_iload (pc := 180) dX7_happens_180 rfl ?_
  refine z_zaldN (pc := 182) dX7_happens_182 (by decide) rfl (by decide) (hbb) ?_
  refine z_if_ne (pc := 183) (tgt := 202) dX7_happens_183 (by decide) (fun h183 => ?_) (fun h183 => ?_)
  · have q : (if μ 10 b = 0 ∧ μ 8 b ≤ μ 6 w then nI 0 else nI 1) = nI 1 := if_neg (fun g => h183 g.1)
    refine z_iconst (pc := 202) (v := (nI 1)) dX7_happens_202 (by decide) ?_
    refine z_goto (pc := 203) (tgt := 207) dX7_happens_203 (by decide) ?_
    refine z_zastN (pc := 207) dX7_happens_207 (by decide) rfl (by decide) (hbb) (by first | exact Or.inl rfl | exact Or.inr rfl) ?_
    refine z_aload_n (pc := 208) dX7_happens_208 rfl ?_
    refine z_iload_n (pc := 209) dX7_happens_209 rfl ?_
    refine z_cV1 (pc := 210) mX7_looks l_X7_143 (by decide) dX7_happens_210 (by decide) rfl rfl (by decide) (Nat.le_of_ble_eq_true rfl) (m_looks hw (by rw [z_up_ne _ _ _ (by decide)]; exact hn) h12 (m_bs_fr hb (z_up_ne _ _ _ (by decide)) (z_up_ne _ _ _ (by decide)))) rfl (fun r210 σ210 hr210 => ?_)
    obtain ⟨rfl, rfl⟩ := hr210
    exact z_return (pc := 213) dX7_happens_213 rfl (⟨rfl, by rw [m_h4, q]⟩)
  · refine z_aload_n (pc := 186) dX7_happens_186 rfl ?_
    refine z_getA (pc := 187) f_X7_31 dX7_happens_187 (by decide) rfl rfl ?_
    refine z_iload (pc := 190) dX7_happens_190 rfl ?_
    refine z_ialdN (pc := 192) dX7_happens_192 (by decide) rfl (by decide) (hbb) ?_
    refine z_aload_n (pc := 193) dX7_happens_193 rfl ?_
    refine z_getA (pc := 194) f_X7_25 dX7_happens_194 (by decide) rfl rfl ?_
    refine z_iload_n (pc := 197) dX7_happens_197 rfl ?_
    refine z_ialdN (pc := 198) dX7_happens_198 (by decide) rfl (by decide) (hw) ?_
    refine z_icmp_le (pc := 199) (tgt := 206) dX7_happens_199 (by decide) (fun h199 => ?_) (fun h199 => ?_)
    · have q : (if μ 10 b = 0 ∧ μ 8 b ≤ μ 6 w then nI 0 else nI 1) = nI 0 := if_pos ⟨h183, h199⟩
      refine z_iconst (pc := 206) (v := (nI 0)) dX7_happens_206 (by decide) ?_
      refine z_zastN (pc := 207) dX7_happens_207 (by decide) rfl (by decide) (hbb) (by first | exact Or.inl rfl | exact Or.inr rfl) ?_
      refine z_aload_n (pc := 208) dX7_happens_208 rfl ?_
      refine z_iload_n (pc := 209) dX7_happens_209 rfl ?_
      refine z_cV1 (pc := 210) mX7_looks l_X7_143 (by decide) dX7_happens_210 (by decide) rfl rfl (by decide) (Nat.le_of_ble_eq_true rfl) (m_looks hw (by rw [z_up_ne _ _ _ (by decide)]; exact hn) h12 (m_bs_fr hb (z_up_ne _ _ _ (by decide)) (z_up_ne _ _ _ (by decide)))) rfl (fun r210 σ210 hr210 => ?_)
      obtain ⟨rfl, rfl⟩ := hr210
      exact z_return (pc := 213) dX7_happens_213 rfl (⟨rfl, by rw [m_h4, q]⟩)
    · have q : (if μ 10 b = 0 ∧ μ 8 b ≤ μ 6 w then nI 0 else nI 1) = nI 1 := if_neg (fun g => h199 g.2)
      refine z_iconst (pc := 202) (v := (nI 1)) dX7_happens_202 (by decide) ?_
      refine z_goto (pc := 203) (tgt := 207) dX7_happens_203 (by decide) ?_
      refine z_zastN (pc := 207) dX7_happens_207 (by decide) rfl (by decide) (hbb) (by first | exact Or.inl rfl | exact Or.inr rfl) ?_
      refine z_aload_n (pc := 208) dX7_happens_208 rfl ?_
      refine z_iload_n (pc := 209) dX7_happens_209 rfl ?_
      refine z_cV1 (pc := 210) mX7_looks l_X7_143 (by decide) dX7_happens_210 (by decide) rfl rfl (by decide) (Nat.le_of_ble_eq_true rfl) (m_looks hw (by rw [z_up_ne _ _ _ (by decide)]; exact hn) h12 (m_bs_fr hb (z_up_ne _ _ _ (by decide)) (z_up_ne _ _ _ (by decide)))) rfl (fun r210 σ210 hr210 => ?_)
      obtain ⟨rfl, rfl⟩ := hr210
      exact z_return (pc := 213) dX7_happens_213 rfl (⟨rfl, by rw [m_h4, q]⟩)
def m_h3 (x k : Nat) (t : Int32) (μ : z_Sto) : z_Sto := z_up (z_up μ 11 x (if k = 2 then μ 11 x else if k = 1 then nI 1 else nI 0)) 15 x t
set_option maxRecDepth 20000 in
theorem m_hap120 {μ : z_Sto} {w l k x b n : Nat} {t fg p : Int32} (hw : w < 2) (hk : k < 3) (hx : x < 24) (hbb : b < 32) (hn : μ 0 1 = nI n) (h12 : n ≤ 12) (hb : m_bs μ n) (hu : ∀ i, z_01 (μ 11 i)) : z_R layM iX7_happens 120 [some (.ref 0), some (.int (nI w)), some (.int (nI l)), some (.int (nI k)), some (.int (nI x)), some (.int (nI b)), some (.int t), some (.int fg), some (.int p)] [] μ (fun r μ' => r = none ∧ μ' = m_lk w n 0 (m_h4 w b (m_h3 x k t (z_up μ 9 b t)))) := by
  refine z_aload_n (pc := 120) dX7_happens_120 rfl ?_
  refine z_getA (pc := 121) f_X7_34 dX7_happens_121 (by decide) rfl rfl ?_
  refine z_iload (pc := 124) dX7_happens_124 rfl ?_
  refine z_iload (pc := 126) dX7_happens_126 rfl ?_
  refine z_iastN (pc := 128) dX7_happens_128 (by decide) rfl (by decide) (hbb) ?_
  refine z_aload_n (pc := 129) dX7_happens_129 rfl ?_
  refine z_getA (pc := 130) f_X7_41 dX7_happens_130 (by decide) rfl rfl ?_
  refine z_iload (pc := 133) dX7_happens_133 rfl ?_
  refine z_iload_n (pc := 135) dX7_happens_135 rfl ?_
  refine z_iconst (pc := 136) (v := (nI 2)) dX7_happens_136 (by decide) ?_
  refine z_icmp_ne (pc := 137) (tgt := 150) dX7_happens_137 (by decide) (fun h137 => ?_) (fun h137 => ?_)
  · have q : ¬ k = 2 := fun q => h137 (by rw [q])
    refine z_iload_n (pc := 150) dX7_happens_150 rfl ?_
    refine z_iconst (pc := 151) (v := (nI 1)) dX7_happens_151 (by decide) ?_
    refine z_icmp_ne (pc := 152) (tgt := 159) dX7_happens_152 (by decide) (fun h152 => ?_) (fun h152 => ?_)
    · have q2 : ¬ k = 1 := fun q => h152 (by rw [q])
      refine z_iconst (pc := 159) (v := (nI 0)) dX7_happens_159 (by decide) ?_
      refine z_zastN (pc := 160) dX7_happens_160 (by decide) rfl (by decide) (hx) (by first | exact hu x | exact Or.inl rfl | exact Or.inr rfl) ?_
      refine z_aload_n (pc := 161) dX7_happens_161 rfl ?_
      refine z_getA (pc := 162) f_X7_53 dX7_happens_162 (by decide) rfl rfl ?_
      refine z_iload (pc := 165) dX7_happens_165 rfl ?_
      refine z_iload (pc := 167) dX7_happens_167 rfl ?_
      refine z_iastN (pc := 169) dX7_happens_169 (by decide) rfl (by decide) (hx) ?_
      exact (m_hap170 hw hbb (by simp only [z_up_at, reduceIte, Nat.reduceEqDiff]; exact hn) h12 (m_bs_fr hb (by rw [z_up_ne _ _ _ (by decide), z_up_ne _ _ _ (by decide), z_up_ne _ _ _ (by decide)]) (by rw [z_up_ne _ _ _ (by decide), z_up_ne _ _ _ (by decide), z_up_ne _ _ _ (by decide)]))).mono (fun r μ' g => ⟨g.1, g.2.trans (by rw [m_h3]; first | (rw [if_pos q, z_up_ne μ b t (show (11 : Nat) ≠ 9 by decide)]) | rw [if_neg q, if_pos q2] | rw [if_neg q, if_neg q2])⟩)
    · have q2 : k = 1 := z_nI_inj (by omega) (by decide) h152
      refine z_iconst (pc := 155) (v := (nI 1)) dX7_happens_155 (by decide) ?_
      refine z_goto (pc := 156) (tgt := 160) dX7_happens_156 (by decide) ?_
      refine z_zastN (pc := 160) dX7_happens_160 (by decide) rfl (by decide) (hx) (by first | exact hu x | exact Or.inl rfl | exact Or.inr rfl) ?_
      refine z_aload_n (pc := 161) dX7_happens_161 rfl ?_
      refine z_getA (pc := 162) f_X7_53 dX7_happens_162 (by decide) rfl rfl ?_
      refine z_iload (pc := 165) dX7_happens_165 rfl ?_
      refine z_iload (pc := 167) dX7_happens_167 rfl ?_
      refine z_iastN (pc := 169) dX7_happens_169 (by decide) rfl (by decide) (hx) ?_
      exact (m_hap170 hw hbb (by simp only [z_up_at, reduceIte, Nat.reduceEqDiff]; exact hn) h12 (m_bs_fr hb (by rw [z_up_ne _ _ _ (by decide), z_up_ne _ _ _ (by decide), z_up_ne _ _ _ (by decide)]) (by rw [z_up_ne _ _ _ (by decide), z_up_ne _ _ _ (by decide), z_up_ne _ _ _ (by decide)]))).mono (fun r μ' g => ⟨g.1, g.2.trans (by rw [m_h3]; first | (rw [if_pos q, z_up_ne μ b t (show (11 : Nat) ≠ 9 by decide)]) | rw [if_neg q, if_pos q2] | rw [if_neg q, if_neg q2])⟩)
  · have q : k = 2 := z_nI_inj (by omega) (by decide) h137
    refine z_aload_n (pc := 140) dX7_happens_140 rfl ?_
    refine z_getA (pc := 141) f_X7_41 dX7_happens_141 (by decide) rfl rfl ?_
    refine z_iload (pc := 144) dX7_happens_144 rfl ?_
    refine z_zaldN (pc := 146) dX7_happens_146 (by decide) rfl (by decide) (hx) ?_
    simp only [z_up_at, reduceIte, Nat.reduceEqDiff]
    refine z_goto (pc := 147) (tgt := 160) dX7_happens_147 (by decide) ?_
    refine z_zastN (pc := 160) dX7_happens_160 (by decide) rfl (by decide) (hx) (by first | exact hu x | exact Or.inl rfl | exact Or.inr rfl) ?_
    refine z_aload_n (pc := 161) dX7_happens_161 rfl ?_
    refine z_getA (pc := 162) f_X7_53 dX7_happens_162 (by decide) rfl rfl ?_
    refine z_iload (pc := 165) dX7_happens_165 rfl ?_
    refine z_iload (pc := 167) dX7_happens_167 rfl ?_
    refine z_iastN (pc := 169) dX7_happens_169 (by decide) rfl (by decide) (hx) ?_
    exact (m_hap170 hw hbb (by simp only [z_up_at, reduceIte, Nat.reduceEqDiff]; exact hn) h12 (m_bs_fr hb (by rw [z_up_ne _ _ _ (by decide), z_up_ne _ _ _ (by decide), z_up_ne _ _ _ (by decide)]) (by rw [z_up_ne _ _ _ (by decide), z_up_ne _ _ _ (by decide), z_up_ne _ _ _ (by decide)]))).mono (fun r μ' g => ⟨g.1, g.2.trans (by rw [m_h3]; first | (rw [if_pos q, z_up_ne μ b t (show (11 : Nat) ≠ 9 by decide)]) | rw [if_neg q, if_pos q2] | rw [if_neg q, if_neg q2])⟩)
set_option maxRecDepth 20000 in
theorem m_hap89 {μ : z_Sto} {w l k x b n : Nat} {t fg p : Int32} (hw : w < 2) (hk : k < 3) (hx : x < 24) (hbb : b < 32) (hn : μ 0 1 = nI n) (h12 : n ≤ 12) (hb : m_bs μ n) (hu : ∀ i, z_01 (μ 11 i)) : z_R layM iX7_happens 89 [some (.ref 0), some (.int (nI w)), some (.int (nI l)), some (.int (nI k)), some (.int (nI x)), some (.int (nI b)), some (.int t), some (.int fg), some (.int p)] [] μ (fun r μ' => r = none ∧ μ' = m_lk w n 0 (m_h4 w b (m_h3 x k t (z_up (z_up μ 8 b (if p ≤ μ 1 6 then p else μ 1 6)) 9 b t)))) := by
  refine z_aload_n (pc := 89) dX7_happens_89 rfl ?_
  refine z_getA (pc := 90) f_X7_31 dX7_happens_90 (by decide) rfl rfl ?_
  refine z_iload (pc := 93) dX7_happens_93 rfl ?_
  refine z_iload (pc := 95) dX7_happens_95 rfl ?_
  refine z_aload_n (pc := 97) dX7_happens_97 rfl ?_
  refine z_getA (pc := 98) f_X7_7 dX7_happens_98 (by decide) rfl rfl ?_
  refine z_bipush (pc := 101) (v := (nI 6)) dX7_happens_101 (by decide) ?_
  refine z_ialdN (pc := 103) dX7_happens_103 (by decide) rfl (by decide) (by decide) ?_
  refine z_icmp_le (pc := 104) (tgt := 117) dX7_happens_104 (by decide) (fun h104 => ?_) (fun h104 => ?_)
  · have q : (if p ≤ μ 1 6 then p else μ 1 6) = p := if_pos h104
    refine z_iload (pc := 117) dX7_happens_117 rfl ?_
    refine z_iastN (pc := 119) dX7_happens_119 (by decide) rfl (by decide) (hbb) ?_
    rw [q]
    exact m_hap120 hw hk hx hbb (by rw [z_up_ne _ _ _ (by decide)]; exact hn) h12 (m_bs_fr hb (z_up_ne _ _ _ (by decide)) (z_up_ne _ _ _ (by decide))) (fun i => by rw [z_up_ne _ _ _ (by decide)]; exact hu i)
  · have q : (if p ≤ μ 1 6 then p else μ 1 6) = μ 1 6 := if_neg h104
    refine z_aload_n (pc := 107) dX7_happens_107 rfl ?_
    refine z_getA (pc := 108) f_X7_7 dX7_happens_108 (by decide) rfl rfl ?_
    refine z_bipush (pc := 111) (v := (nI 6)) dX7_happens_111 (by decide) ?_
    refine z_ialdN (pc := 113) dX7_happens_113 (by decide) rfl (by decide) (by decide) ?_
    refine z_goto (pc := 114) (tgt := 119) dX7_happens_114 (by decide) ?_
    refine z_iastN (pc := 119) dX7_happens_119 (by decide) rfl (by decide) (hbb) ?_
    rw [q]
    exact m_hap120 hw hk hx hbb (by rw [z_up_ne _ _ _ (by decide)]; exact hn) h12 (m_bs_fr hb (z_up_ne _ _ _ (by decide)) (z_up_ne _ _ _ (by decide))) (fun i => by rw [z_up_ne _ _ _ (by decide)]; exact hu i)
def m_wgt (w l k : Nat) (μ : z_Sto) : Int32 := if (μ 2 l = nI 2 ∧ k = 0) ∧ μ 15 (12 * w + l) < μ 5 w - μ 1 7 then nI 0 else μ 1 k
def m_hp (w l k n : Nat) (μ : z_Sto) : z_Sto := m_lk w n 0 (m_h4 w (16 * w + m_b μ l) (m_h3 (12 * w + l) k (μ 5 w) (z_up (z_up μ 8 (16 * w + m_b μ l) (if m_pen w l μ + m_wgt w l k μ ≤ μ 1 6 then m_pen w l μ + m_wgt w l k μ else μ 1 6)) 9 (16 * w + m_b μ l) (μ 5 w))))
set_option maxRecDepth 20000 in
theorem m_hap65 {μ : z_Sto} {w l k n h : Nat} {fg : Nat} (hfg : (if fg = 0 then μ 1 k else nI 0) = m_wgt w l k μ) (hfg2 : fg < 2) (hw : w < 2) (hk : k < 3) (hl : l < n) (hn : μ 0 1 = nI n) (h12 : n ≤ 12) (hb : m_bs μ n) (hu : ∀ i, z_01 (μ 11 i)) (hh : μ 1 3 = nI h) (h1 : 1 ≤ h) (h2 : h ≤ 500) : z_R layM iX7_happens 65 [some (.ref 0), some (.int (nI w)), some (.int (nI l)), some (.int (nI k)), some (.int (nI (12 * w + l))), some (.int (nI (16 * w + m_b μ l))), some (.int (μ 5 w)), some (.int (nI fg)), none] [] μ (fun r μ' => r = none ∧ μ' = m_hp w l k n μ) := by
  have hbl := m_b_lt (hb l hl) (by omega)
  refine z_aload_n (pc := 65) dX7_happens_65 rfl ?_
  refine z_iload_n (pc := 66) dX7_happens_66 rfl ?_
  refine z_iload_n (pc := 67) dX7_happens_67 rfl ?_
  refine z_cV2 (pc := 68) mX7_penaltyNow l_X7_140 (by decide) dX7_happens_68 (by decide) rfl rfl (by decide) (Nat.le_of_ble_eq_true rfl) (m_penaltyNow hw (by omega) (hb l hl) hh h1 h2) rfl (fun r68 σ68 hr68 => ?_)
  obtain ⟨rfl, rfl⟩ := hr68
  refine z_iload (pc := 71) dX7_happens_71 rfl ?_
  refine z_if_eq (pc := 73) (tgt := 80) dX7_happens_73 (by decide) (fun h73 => ?_) (fun h73 => ?_)
  · have q : σ68 1 k = m_wgt w l k σ68 := by rw [if_pos (z_nI_inj (by omega) (by decide) h73)] at hfg; exact hfg
    refine z_aload_n (pc := 80) dX7_happens_80 rfl ?_
    refine z_getA (pc := 81) f_X7_7 dX7_happens_81 (by decide) rfl rfl ?_
    refine z_iload_n (pc := 84) dX7_happens_84 rfl ?_
    refine z_ialdN (pc := 85) dX7_happens_85 (by decide) rfl (by decide) (by omega) ?_
    refine z_iadd (pc := 86) dX7_happens_86 ?_
    refine z_istore (pc := 87) dX7_happens_87 (by decide) rfl rfl ?_
    rw [q]
    exact m_hap89 hw hk (by omega) (by omega) hn h12 hb hu
  · have q : nI 0 = m_wgt w l k σ68 := by rw [if_neg (fun g => h73 (by rw [g]; rfl))] at hfg; exact hfg
    refine z_iconst (pc := 76) (v := (nI 0)) dX7_happens_76 (by decide) ?_
    refine z_goto (pc := 77) (tgt := 86) dX7_happens_77 (by decide) ?_
    refine z_iadd (pc := 86) dX7_happens_86 ?_
    refine z_istore (pc := 87) dX7_happens_87 (by decide) rfl rfl ?_
    rw [q]
    exact m_hap89 hw hk (by omega) (by omega) hn h12 hb hu
set_option maxRecDepth 20000 in
theorem m_happens {μ : z_Sto} {w l k n h : Nat} (hw : w < 2) (hk : k < 3) (hl : l < n) (hn : μ 0 1 = nI n) (h12 : n ≤ 12) (hb : m_bs μ n) (hu : ∀ i, z_01 (μ 11 i)) (hh : μ 1 3 = nI h) (h1 : 1 ≤ h) (h2 : h ≤ 500) : z_R layM iX7_happens 0 [some (.ref 0), some (.int (nI w)), some (.int (nI l)), some (.int (nI k)), none, none, none, none, none] [] μ (fun r μ' => r = none ∧ μ' = m_hp w l k n μ) := by
  refine z_bipush (pc := 0) (v := (nI 12)) dX7_happens_0 (by decide) ?_
  refine z_iload_n (pc := 2) dX7_happens_2 rfl ?_
  refine z_imulN (pc := 3) dX7_happens_3 ?_
  refine z_iload_n (pc := 4) dX7_happens_4 rfl ?_
  refine z_iaddN (pc := 5) dX7_happens_5 ?_
  refine z_istore (pc := 6) dX7_happens_6 (by decide) rfl rfl ?_
  refine z_aload_n (pc := 8) dX7_happens_8 rfl ?_
  refine z_iload_n (pc := 9) dX7_happens_9 rfl ?_
  refine z_iload_n (pc := 10) dX7_happens_10 rfl ?_
  refine z_cV2 (pc := 11) mX7_bearer l_X7_108 (by decide) dX7_happens_11 (by decide) rfl rfl (by decide) (Nat.le_of_ble_eq_true rfl) (m_bearer (by omega) (hb l hl)) rfl (fun r11 σ11 hr11 => ?_)
  obtain ⟨rfl, rfl⟩ := hr11
  refine z_istore (pc := 14) dX7_happens_14 (by decide) rfl rfl ?_
  refine z_aload_n (pc := 16) dX7_happens_16 rfl ?_
  refine z_getA (pc := 17) f_X7_22 dX7_happens_17 (by decide) rfl rfl ?_
  refine z_iload_n (pc := 20) dX7_happens_20 rfl ?_
  refine z_ialdN (pc := 21) dX7_happens_21 (by decide) rfl (by decide) (hw) ?_
  refine z_istore (pc := 22) dX7_happens_22 (by decide) rfl rfl ?_
  refine z_aload_n (pc := 24) dX7_happens_24 rfl ?_
  refine z_getA (pc := 25) f_X7_13 dX7_happens_25 (by decide) rfl rfl ?_
  refine z_iload_n (pc := 28) dX7_happens_28 rfl ?_
  refine z_ialdN (pc := 29) dX7_happens_29 (by decide) rfl (by decide) (by omega) ?_
  refine z_iconst (pc := 30) (v := (nI 2)) dX7_happens_30 (by decide) ?_
  refine z_icmp_ne (pc := 31) (tgt := 62) dX7_happens_31 (by decide) (fun h31 => ?_) (fun h31 => ?_)
  · have hfg : (if (0 : Nat) = 0 then σ11 1 k else nI 0) = m_wgt w l k σ11 := by rw [if_pos rfl, m_wgt, if_neg (fun g => h31 g.1.1)]
    refine z_iconst (pc := 62) (v := (nI 0)) dX7_happens_62 (by decide) ?_
    refine z_istore (pc := 63) dX7_happens_63 (by decide) rfl rfl ?_
    exact m_hap65 hfg (by decide) hw hk hl hn h12 hb hu hh h1 h2
  · refine z_iload_n (pc := 34) dX7_happens_34 rfl ?_
    refine z_if_ne (pc := 35) (tgt := 62) dX7_happens_35 (by decide) (fun h35 => ?_) (fun h35 => ?_)
    · have hfg : (if (0 : Nat) = 0 then σ11 1 k else nI 0) = m_wgt w l k σ11 := by rw [if_pos rfl, m_wgt, if_neg (fun g => h35 (by rw [g.1.2]; rfl))]
      refine z_iconst (pc := 62) (v := (nI 0)) dX7_happens_62 (by decide) ?_
      refine z_istore (pc := 63) dX7_happens_63 (by decide) rfl rfl ?_
      exact m_hap65 hfg (by decide) hw hk hl hn h12 hb hu hh h1 h2
    · refine z_aload_n (pc := 38) dX7_happens_38 rfl ?_
      refine z_getA (pc := 39) f_X7_53 dX7_happens_39 (by decide) rfl rfl ?_
      refine z_iload (pc := 42) dX7_happens_42 rfl ?_
      refine z_ialdN (pc := 44) dX7_happens_44 (by decide) rfl (by decide) (by omega) ?_
      refine z_iload (pc := 45) dX7_happens_45 rfl ?_
      refine z_aload_n (pc := 47) dX7_happens_47 rfl ?_
      refine z_getA (pc := 48) f_X7_7 dX7_happens_48 (by decide) rfl rfl ?_
      refine z_bipush (pc := 51) (v := (nI 7)) dX7_happens_51 (by decide) ?_
      refine z_ialdN (pc := 53) dX7_happens_53 (by decide) rfl (by decide) (by decide) ?_
      refine z_isub (pc := 54) dX7_happens_54 ?_
      refine z_icmp_ge (pc := 55) (tgt := 62) dX7_happens_55 (by decide) (fun h55 => ?_) (fun h55 => ?_)
      · have hfg : (if (0 : Nat) = 0 then σ11 1 k else nI 0) = m_wgt w l k σ11 := by rw [if_pos rfl, m_wgt, if_neg (fun g => z_nle g.2 h55)]
        refine z_iconst (pc := 62) (v := (nI 0)) dX7_happens_62 (by decide) ?_
        refine z_istore (pc := 63) dX7_happens_63 (by decide) rfl rfl ?_
        exact m_hap65 hfg (by decide) hw hk hl hn h12 hb hu hh h1 h2
      · have hfg : (if (1 : Nat) = 0 then σ11 1 k else nI 0) = m_wgt w l k σ11 := by rw [if_neg (by decide), m_wgt, if_pos ⟨⟨h31, z_nI_inj (by omega) (by decide) h35⟩, by rw [← Int32.not_le]; exact h55⟩]
        refine z_iconst (pc := 58) (v := (nI 1)) dX7_happens_58 (by decide) ?_
        refine z_goto (pc := 59) (tgt := 63) dX7_happens_59 (by decide) ?_
        refine z_istore (pc := 63) dX7_happens_63 (by decide) rfl rfl ?_
        exact m_hap65 hfg (by decide) hw hk hl hn h12 hb hu hh h1 h2
