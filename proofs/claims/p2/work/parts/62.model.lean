/-! the reference: ticks, going over again -/
theorem m_hp_fr {w l k n c : Nat} {μ : z_Sto} (h : c < 8 ∨ c = 14 ∨ 15 < c) : m_hp w l k n μ c = μ c := by
  rw [m_hp, m_lk_fr (by omega), m_h4, z_up_ne _ _ _ (by omega), m_h3, z_up_ne _ _ _ (by omega), z_up_ne _ _ _ (by omega), z_up_ne _ _ _ (by omega), z_up_ne _ _ _ (by omega)]
theorem m_hp_up {w l k n : Nat} {μ : z_Sto} (hu : ∀ i, z_01 (μ 11 i)) : ∀ i, z_01 (m_hp w l k n μ 11 i) := by
  intro i
  rw [m_hp, m_lk_fr (by decide), m_h4, z_up_ne _ _ _ (by decide), m_h3, z_up_ne _ _ _ (by decide), z_up_at]
  rw [if_pos rfl]
  split
  · split
    · rw [z_up_ne _ _ _ (by decide), z_up_ne _ _ _ (by decide)]; exact hu _
    · split
      · exact Or.inr rfl
      · exact Or.inl rfl
  · rw [z_up_ne _ _ _ (by decide), z_up_ne _ _ _ (by decide)]; exact hu i
def m_ok (μ : z_Sto) (n e h : Nat) : Prop := μ 0 1 = nI n ∧ n ≤ 12 ∧ μ 0 16 = nI e ∧ e ≤ 300 ∧ m_bs μ n ∧ (∀ j, j < e → ∃ l k t, l < n ∧ k < 3 ∧ t ≤ 2000 ∧ μ 16 j = nI l ∧ μ 17 j = nI k ∧ μ 18 j = nI t) ∧ μ 1 3 = nI h ∧ 1 ≤ h ∧ h ≤ 500 ∧ (∀ i, z_01 (μ 11 i))
theorem m_ok_fr {μ τ : z_Sto} {n e h : Nat} (H : m_ok μ n e h) (hu : ∀ i, z_01 (τ 11 i)) (h01 : τ 0 1 = μ 0 1) (h016 : τ 0 16 = μ 0 16) (f : ∀ c, c = 1 ∨ c = 2 ∨ c = 3 ∨ c = 16 ∨ c = 17 ∨ c = 18 → τ c = μ c) : m_ok τ n e h := by
  obtain ⟨a1, a2, a3, a4, a5, a6, a7, a8, a9, a10⟩ := H
  exact ⟨h01.trans a1, a2, h016.trans a3, a4, m_bs_fr a5 (f 2 (by decide)) (f 3 (by decide)), by rw [f 16 (by decide), f 17 (by decide), f 18 (by decide)]; exact a6, by rw [f 1 (by decide)]; exact a7, a8, a9, hu⟩
def m_a1 (w b : Nat) (μ : z_Sto) : z_Sto := if ¬ μ 10 b = 0 ∧ m_fade (μ 8 b) (μ 5 w - μ 9 b) (μ 1 3) < μ 7 w then z_up μ 10 b (nI 0) else μ
def m_a (w : Nat) : Nat → Nat → z_Sto → z_Sto
  | 0, _, μ => μ
  | f + 1, b, μ => m_a w f (b + 1) (m_a1 w b μ)
def m_c1 (w l : Nat) (μ : z_Sto) : z_Sto := z_up μ 14 (12 * w + l) (μ 14 (12 * w + l) + (if ¬ μ 11 (12 * w + l) = 0 ∧ ¬ μ 10 (16 * w + m_b μ l) = 0 then nI 1 else nI 0))
def m_c (w : Nat) : Nat → Nat → z_Sto → z_Sto
  | 0, _, μ => μ
  | f + 1, l, μ => m_c w f (l + 1) (m_c1 w l μ)
def m_ticks (w n : Nat) (μ : z_Sto) : z_Sto := m_lk w n 0 (m_c w n 0 (m_a w 16 (16 * w) (z_up μ 5 w (μ 5 w + nI 1))))
theorem m_a1_fr {w b c : Nat} {μ : z_Sto} (h : c ≠ 10) : m_a1 w b μ c = μ c := by
  unfold m_a1
  split
  · rw [z_up_ne _ _ _ h]
  · rfl
theorem m_a_fr {w c : Nat} (h : c ≠ 10) : ∀ (f b : Nat) (μ : z_Sto), m_a w f b μ c = μ c
  | 0, _, _ => rfl
  | f + 1, b, μ => by rw [m_a, m_a_fr h f, m_a1_fr h]
theorem m_c_fr {w c : Nat} (h : c ≠ 14) : ∀ (f l : Nat) (μ : z_Sto), m_c w f l μ c = μ c
  | 0, _, _ => rfl
  | f + 1, l, μ => by rw [m_c, m_c_fr h f, m_c1, z_up_ne _ _ _ h]
theorem m_ticks_fr {w n c : Nat} {μ : z_Sto} (h : c ≠ 5 ∧ c ≠ 10 ∧ c ≠ 12 ∧ c ≠ 13 ∧ c ≠ 14) : m_ticks w n μ c = μ c := by
  rw [m_ticks, m_lk_fr (by omega), m_c_fr (by omega), m_a_fr (by omega), z_up_ne _ _ _ h.1]
theorem m_ticks_5 {w n : Nat} {μ : z_Sto} : m_ticks w n μ 5 = upd (μ 5) w (μ 5 w + nI 1) := by
  rw [m_ticks, m_lk_fr (by decide), m_c_fr (by decide), m_a_fr (by decide), z_up_same]
set_option maxRecDepth 20000 in
theorem m_tk82 {μ : z_Sto} {w l n : Nat} (hw : w < 2) (hn : μ 0 1 = nI n) (h12 : n ≤ 12) (hb : m_bs μ n) (hl : l ≤ n) : z_R layM iX7_ticks 82 [some (.ref 0), some (.int (nI w)), some (.int (nI l))] [] μ (fun r μ' => r = none ∧ μ' = m_lk w n 0 (m_c w (n - l) l μ)) := by
  generalize hf : n - l = f
  induction f using Nat.strongRecOn generalizing l μ
  rename_i f ih
  refine z_iload_n (pc := 82) dX7_ticks_82 rfl ?_
  refine z_aload_n (pc := 83) dX7_ticks_83 rfl ?_
  refine z_getI (pc := 84) f_X7_115 dX7_ticks_84 (by decide) rfl rfl ?_
  rw [hn]
  refine z_icmp_ge (pc := 87) (tgt := 143) dX7_ticks_87 (by decide) (fun h87 => ?_) (fun h87 => ?_)
  · have q87 : f = 0 := by have := (nI_leI (by omega) (by omega)).mp h87; omega
    refine z_aload_n (pc := 143) dX7_ticks_143 rfl ?_
    refine z_iload_n (pc := 144) dX7_ticks_144 rfl ?_
    refine z_cV1 (pc := 145) mX7_looks l_X7_143 (by decide) dX7_ticks_145 (by decide) rfl rfl (by decide) (Nat.le_of_ble_eq_true rfl) (m_looks hw hn h12 hb) rfl (fun r145 σ145 hr145 => ?_)
    obtain ⟨er145, eσ145⟩ := hr145
    subst er145
    exact z_return (pc := 148) dX7_ticks_148 rfl (⟨rfl, eσ145.trans (by rw [q87, m_c])⟩)
  · have q87 : l < n := by have : ¬ n ≤ l := fun q => h87 ((nI_leI (by omega) (by omega)).mpr q); omega
    have hf1 : f = (n - (l + 1)) + 1 := by omega
    have hbl := m_b_lt (hb l q87) (by omega)
    refine z_aload_n (pc := 90) dX7_ticks_90 rfl ?_
    refine z_getA (pc := 91) f_X7_50 dX7_ticks_91 (by decide) rfl rfl ?_
    refine z_bipush (pc := 94) (v := (nI 12)) dX7_ticks_94 (by decide) ?_
    refine z_iload_n (pc := 96) dX7_ticks_96 rfl ?_
    refine z_imulN (pc := 97) dX7_ticks_97 ?_
    refine z_iload_n (pc := 98) dX7_ticks_98 rfl ?_
    refine z_iaddN (pc := 99) dX7_ticks_99 ?_
    refine z_dup2 (pc := 100) dX7_ticks_100 ?_
    refine z_ialdN (pc := 101) dX7_ticks_101 (by decide) rfl (by decide) (by omega) ?_
    refine z_aload_n (pc := 102) dX7_ticks_102 rfl ?_
    refine z_getA (pc := 103) f_X7_41 dX7_ticks_103 (by decide) rfl rfl ?_
    refine z_bipush (pc := 106) (v := (nI 12)) dX7_ticks_106 (by decide) ?_
    refine z_iload_n (pc := 108) dX7_ticks_108 rfl ?_
    refine z_imulN (pc := 109) dX7_ticks_109 ?_
    refine z_iload_n (pc := 110) dX7_ticks_110 rfl ?_
    refine z_iaddN (pc := 111) dX7_ticks_111 ?_
    refine z_zaldN (pc := 112) dX7_ticks_112 (by decide) rfl (by decide) (by omega) ?_
    refine z_if_eq (pc := 113) (tgt := 134) dX7_ticks_113 (by decide) (fun h113 => ?_) (fun h113 => ?_)
    · have q : (if ¬ μ 11 (12 * w + l) = 0 ∧ ¬ μ 10 (16 * w + m_b μ l) = 0 then nI 1 else nI 0) = nI 0 := if_neg (fun g => g.1 h113)
      refine z_iconst (pc := 134) (v := (nI 0)) dX7_ticks_134 (by decide) ?_
      refine z_iadd (pc := 135) dX7_ticks_135 ?_
      refine z_iastN (pc := 136) dX7_ticks_136 (by decide) rfl (by decide) (by omega) ?_
      refine z_iincN (pc := 137) dX7_ticks_137 rfl (by decide) rfl rfl ?_
      refine z_goto (pc := 140) (tgt := 82) dX7_ticks_140 (by decide) ?_
      exact (ih _ (by omega) (l := l + 1) (by rw [z_up_ne _ _ _ (by decide)]; exact hn) (m_bs_fr hb (z_up_ne _ _ _ (by decide)) (z_up_ne _ _ _ (by decide))) (by omega) rfl).mono (fun r μ' g => ⟨g.1, g.2.trans (by rw [hf1, m_c, m_c1, q])⟩)
    · refine z_aload_n (pc := 116) dX7_ticks_116 rfl ?_
      refine z_getA (pc := 117) f_X7_37 dX7_ticks_117 (by decide) rfl rfl ?_
      refine z_aload_n (pc := 120) dX7_ticks_120 rfl ?_
      refine z_iload_n (pc := 121) dX7_ticks_121 rfl ?_
      refine z_iload_n (pc := 122) dX7_ticks_122 rfl ?_
      refine z_cV2 (pc := 123) mX7_bearer l_X7_108 (by decide) dX7_ticks_123 (by decide) rfl rfl (by decide) (Nat.le_of_ble_eq_true rfl) (m_bearer (by omega) (hb l q87)) rfl (fun r123 σ123 hr123 => ?_)
      obtain ⟨rfl, rfl⟩ := hr123
      refine z_zaldN (pc := 126) dX7_ticks_126 (by decide) rfl (by decide) (by omega) ?_
      refine z_if_eq (pc := 127) (tgt := 134) dX7_ticks_127 (by decide) (fun h127 => ?_) (fun h127 => ?_)
      · have q : (if ¬ σ123 11 (12 * w + l) = 0 ∧ ¬ σ123 10 (16 * w + m_b σ123 l) = 0 then nI 1 else nI 0) = nI 0 := if_neg (fun g => g.2 h127)
        refine z_iconst (pc := 134) (v := (nI 0)) dX7_ticks_134 (by decide) ?_
        refine z_iadd (pc := 135) dX7_ticks_135 ?_
        refine z_iastN (pc := 136) dX7_ticks_136 (by decide) rfl (by decide) (by omega) ?_
        refine z_iincN (pc := 137) dX7_ticks_137 rfl (by decide) rfl rfl ?_
        refine z_goto (pc := 140) (tgt := 82) dX7_ticks_140 (by decide) ?_
        exact (ih _ (by omega) (l := l + 1) (by rw [z_up_ne _ _ _ (by decide)]; exact hn) (m_bs_fr hb (z_up_ne _ _ _ (by decide)) (z_up_ne _ _ _ (by decide))) (by omega) rfl).mono (fun r μ' g => ⟨g.1, g.2.trans (by rw [hf1, m_c, m_c1, q])⟩)
      · have q : (if ¬ σ123 11 (12 * w + l) = 0 ∧ ¬ σ123 10 (16 * w + m_b σ123 l) = 0 then nI 1 else nI 0) = nI 1 := if_pos ⟨h113, h127⟩
        refine z_iconst (pc := 130) (v := (nI 1)) dX7_ticks_130 (by decide) ?_
        refine z_goto (pc := 131) (tgt := 135) dX7_ticks_131 (by decide) ?_
        refine z_iadd (pc := 135) dX7_ticks_135 ?_
        refine z_iastN (pc := 136) dX7_ticks_136 (by decide) rfl (by decide) (by omega) ?_
        refine z_iincN (pc := 137) dX7_ticks_137 rfl (by decide) rfl rfl ?_
        refine z_goto (pc := 140) (tgt := 82) dX7_ticks_140 (by decide) ?_
        exact (ih _ (by omega) (l := l + 1) (by rw [z_up_ne _ _ _ (by decide)]; exact hn) (m_bs_fr hb (z_up_ne _ _ _ (by decide)) (z_up_ne _ _ _ (by decide))) (by omega) rfl).mono (fun r μ' g => ⟨g.1, g.2.trans (by rw [hf1, m_c, m_c1, q])⟩)
set_option maxRecDepth 20000 in
theorem m_tk15 {μ : z_Sto} {w b n h : Nat} (hw : w < 2) (hn : μ 0 1 = nI n) (h12 : n ≤ 12) (hb : m_bs μ n) (hh : μ 1 3 = nI h) (h1 : 1 ≤ h) (h2 : h ≤ 500) (hb2 : b ≤ 16 * w + 16) : z_R layM iX7_ticks 15 [some (.ref 0), some (.int (nI w)), some (.int (nI b))] [] μ (fun r μ' => r = none ∧ μ' = m_lk w n 0 (m_c w n 0 (m_a w (16 * w + 16 - b) b μ))) := by
  generalize hf : 16 * w + 16 - b = f
  induction f using Nat.strongRecOn generalizing b μ
  rename_i f ih
  refine z_iload_n (pc := 15) dX7_ticks_15 rfl ?_
  refine z_bipush (pc := 16) (v := (nI 16)) dX7_ticks_16 (by decide) ?_
  refine z_iload_n (pc := 18) dX7_ticks_18 rfl ?_
  refine z_imulN (pc := 19) dX7_ticks_19 ?_
  refine z_bipush (pc := 20) (v := (nI 16)) dX7_ticks_20 (by decide) ?_
  refine z_iaddN (pc := 22) dX7_ticks_22 ?_
  refine z_icmp_ge (pc := 23) (tgt := 80) dX7_ticks_23 (by decide) (fun h23 => ?_) (fun h23 => ?_)
  · have q23 : f = 0 := by have := (nI_leI (by omega) (by omega)).mp h23; omega
    refine z_iconst (pc := 80) (v := (nI 0)) dX7_ticks_80 (by decide) ?_
    refine z_istore_n (pc := 81) dX7_ticks_81 (by decide) rfl rfl ?_
    exact (m_tk82 (l := 0) hw hn h12 hb (by omega)).mono (fun r μ' g => ⟨g.1, g.2.trans (by rw [q23, m_a]; rfl)⟩)
  · have q23 : b < 16 * w + 16 := by have : ¬ 16 * w + 16 ≤ b := fun q => h23 ((nI_leI (by omega) (by omega)).mpr q); omega
    have hf1 : f = (16 * w + 16 - (b + 1)) + 1 := by omega
    refine z_aload_n (pc := 26) dX7_ticks_26 rfl ?_
    refine z_getA (pc := 27) f_X7_37 dX7_ticks_27 (by decide) rfl rfl ?_
    refine z_iload_n (pc := 30) dX7_ticks_30 rfl ?_
    refine z_zaldN (pc := 31) dX7_ticks_31 (by decide) rfl (by decide) (by omega) ?_
    refine z_if_eq (pc := 32) (tgt := 74) dX7_ticks_32 (by decide) (fun h32 => ?_) (fun h32 => ?_)
    · have q : m_a1 w b μ = μ := by rw [m_a1, if_neg (fun g => g.1 h32)]
      refine z_iincN (pc := 74) dX7_ticks_74 rfl (by decide) rfl rfl ?_
      refine z_goto (pc := 77) (tgt := 15) dX7_ticks_77 (by decide) ?_
      exact by first | exact (ih _ (by omega) (b := b + 1) hn hb hh (by omega) rfl).mono (fun r μ' g => ⟨g.1, g.2.trans (by rw [hf1, m_a, q])⟩) | exact (ih _ (by omega) (b := b + 1) (by rw [z_up_ne _ _ _ (by decide)]; exact hn) (m_bs_fr hb (z_up_ne _ _ _ (by decide)) (z_up_ne _ _ _ (by decide))) (by rw [z_up_ne _ _ _ (by decide)]; exact hh) (by omega) rfl).mono (fun r μ' g => ⟨g.1, g.2.trans (by rw [hf1, m_a, q])⟩)
    · refine z_aload_n (pc := 35) dX7_ticks_35 rfl ?_
      refine z_aload_n (pc := 36) dX7_ticks_36 rfl ?_
      refine z_getA (pc := 37) f_X7_31 dX7_ticks_37 (by decide) rfl rfl ?_
      refine z_iload_n (pc := 40) dX7_ticks_40 rfl ?_
      refine z_ialdN (pc := 41) dX7_ticks_41 (by decide) rfl (by decide) (by omega) ?_
      refine z_aload_n (pc := 42) dX7_ticks_42 rfl ?_
      refine z_getA (pc := 43) f_X7_22 dX7_ticks_43 (by decide) rfl rfl ?_
      refine z_iload_n (pc := 46) dX7_ticks_46 rfl ?_
      refine z_ialdN (pc := 47) dX7_ticks_47 (by decide) rfl (by decide) (hw) ?_
      refine z_aload_n (pc := 48) dX7_ticks_48 rfl ?_
      refine z_getA (pc := 49) f_X7_34 dX7_ticks_49 (by decide) rfl rfl ?_
      refine z_iload_n (pc := 52) dX7_ticks_52 rfl ?_
      refine z_ialdN (pc := 53) dX7_ticks_53 (by decide) rfl (by decide) (by omega) ?_
      refine z_isub (pc := 54) dX7_ticks_54 ?_
      refine z_cV2 (pc := 55) mX7_fades l_X7_112 (by decide) dX7_ticks_55 (by decide) rfl rfl (by decide) (Nat.le_of_ble_eq_true rfl) (m_fades hh h1 h2) rfl (fun r55 σ55 hr55 => ?_)
      obtain ⟨rfl, rfl⟩ := hr55
      refine z_aload_n (pc := 58) dX7_ticks_58 rfl ?_
      refine z_getA (pc := 59) f_X7_28 dX7_ticks_59 (by decide) rfl rfl ?_
      refine z_iload_n (pc := 62) dX7_ticks_62 rfl ?_
      refine z_ialdN (pc := 63) dX7_ticks_63 (by decide) rfl (by decide) (hw) ?_
      refine z_icmp_ge (pc := 64) (tgt := 74) dX7_ticks_64 (by decide) (fun h64 => ?_) (fun h64 => ?_)
      · have q : m_a1 w b σ55 = σ55 := by rw [m_a1, hh, if_neg (fun g => z_nle g.2 h64)]
        refine z_iincN (pc := 74) dX7_ticks_74 rfl (by decide) rfl rfl ?_
        refine z_goto (pc := 77) (tgt := 15) dX7_ticks_77 (by decide) ?_
        exact by first | exact (ih _ (by omega) (b := b + 1) hn hb hh (by omega) rfl).mono (fun r μ' g => ⟨g.1, g.2.trans (by rw [hf1, m_a, q])⟩) | exact (ih _ (by omega) (b := b + 1) (by rw [z_up_ne _ _ _ (by decide)]; exact hn) (m_bs_fr hb (z_up_ne _ _ _ (by decide)) (z_up_ne _ _ _ (by decide))) (by rw [z_up_ne _ _ _ (by decide)]; exact hh) (by omega) rfl).mono (fun r μ' g => ⟨g.1, g.2.trans (by rw [hf1, m_a, q])⟩)
      · have q : m_a1 w b σ55 = z_up σ55 10 b (nI 0) := by rw [m_a1, hh, if_pos ⟨h32, by rw [← Int32.not_le]; exact h64⟩]
        refine z_aload_n (pc := 67) dX7_ticks_67 rfl ?_
        refine z_getA (pc := 68) f_X7_37 dX7_ticks_68 (by decide) rfl rfl ?_
        refine z_iload_n (pc := 71) dX7_ticks_71 rfl ?_
        refine z_iconst (pc := 72) (v := (nI 0)) dX7_ticks_72 (by decide) ?_
        refine z_zastN (pc := 73) dX7_ticks_73 (by decide) rfl (by decide) (by omega) (Or.inl rfl) ?_
        refine z_iincN (pc := 74) dX7_ticks_74 rfl (by decide) rfl rfl ?_
        refine z_goto (pc := 77) (tgt := 15) dX7_ticks_77 (by decide) ?_
        exact by first | exact (ih _ (by omega) (b := b + 1) hn hb hh (by omega) rfl).mono (fun r μ' g => ⟨g.1, g.2.trans (by rw [hf1, m_a, q])⟩) | exact (ih _ (by omega) (b := b + 1) (by rw [z_up_ne _ _ _ (by decide)]; exact hn) (m_bs_fr hb (z_up_ne _ _ _ (by decide)) (z_up_ne _ _ _ (by decide))) (by rw [z_up_ne _ _ _ (by decide)]; exact hh) (by omega) rfl).mono (fun r μ' g => ⟨g.1, g.2.trans (by rw [hf1, m_a, q])⟩)
set_option maxRecDepth 20000 in
theorem m_ticksC {μ : z_Sto} {w n h : Nat} (hw : w < 2) (hn : μ 0 1 = nI n) (h12 : n ≤ 12) (hb : m_bs μ n) (hh : μ 1 3 = nI h) (h1 : 1 ≤ h) (h2 : h ≤ 500) : z_R layM iX7_ticks 0 [some (.ref 0), some (.int (nI w)), none] [] μ (fun r μ' => r = none ∧ μ' = m_ticks w n μ) := by
  refine z_aload_n (pc := 0) dX7_ticks_0 rfl ?_
  refine z_getA (pc := 1) f_X7_22 dX7_ticks_1 (by decide) rfl rfl ?_
  refine z_iload_n (pc := 4) dX7_ticks_4 rfl ?_
  refine z_dup2 (pc := 5) dX7_ticks_5 ?_
  refine z_ialdN (pc := 6) dX7_ticks_6 (by decide) rfl (by decide) (hw) ?_
  refine z_iconst (pc := 7) (v := (nI 1)) dX7_ticks_7 (by decide) ?_
  refine z_iadd (pc := 8) dX7_ticks_8 ?_
  refine z_iastN (pc := 9) dX7_ticks_9 (by decide) rfl (by decide) (hw) ?_
  refine z_bipush (pc := 10) (v := (nI 16)) dX7_ticks_10 (by decide) ?_
  refine z_iload_n (pc := 12) dX7_ticks_12 rfl ?_
  refine z_imulN (pc := 13) dX7_ticks_13 ?_
  refine z_istore_n (pc := 14) dX7_ticks_14 (by decide) rfl rfl ?_
  exact (m_tk15 hw (by rw [z_up_ne _ _ _ (by decide)]; exact hn) h12 (m_bs_fr hb (z_up_ne _ _ _ (by decide)) (z_up_ne _ _ _ (by decide))) (by rw [z_up_ne _ _ _ (by decide)]; exact hh) h1 h2 (by omega)).mono (fun r μ' g => ⟨g.1, g.2.trans (by rw [m_ticks, show 16 * w + 16 - 16 * w = 16 by omega])⟩)
set_option maxRecDepth 20000 in
theorem m_iss {μ : z_Sto} {b : Nat} (hb : b ≤ 32) : z_R layM iX7_isSomeShut 3 [some (.ref 0), some (.int (nI b))] [] μ (fun r μ' => (r = some (.int (nI 0)) ∨ r = some (.int (nI 1))) ∧ μ' = μ) := by
  generalize hf : 32 - b = f
  induction f using Nat.strongRecOn generalizing b
  rename_i f ih
  refine z_iload_n (pc := 3) dX7_isSomeShut_3 rfl ?_
  refine z_bipush (pc := 4) (v := (nI 32)) dX7_isSomeShut_4 (by decide) ?_
  refine z_icmp_ge (pc := 6) (tgt := 26) dX7_isSomeShut_6 (by decide) (fun h6 => ?_) (fun h6 => ?_)
  · refine z_iconst (pc := 26) (v := (nI 0)) dX7_isSomeShut_26 (by decide) ?_
    exact z_ireturn (pc := 27) dX7_isSomeShut_27 rfl (by decide) (⟨Or.inl rfl, rfl⟩)
  · have q6 : b < 32 := by have : ¬ 32 ≤ b := fun q => h6 ((nI_leI (by decide) (by omega)).mpr q); omega
    refine z_aload_n (pc := 9) dX7_isSomeShut_9 rfl ?_
    refine z_getA (pc := 10) f_X7_37 dX7_isSomeShut_10 (by decide) rfl rfl ?_
    refine z_iload_n (pc := 13) dX7_isSomeShut_13 rfl ?_
    refine z_zaldN (pc := 14) dX7_isSomeShut_14 (by decide) rfl (by decide) (q6) ?_
    refine z_if_eq (pc := 15) (tgt := 20) dX7_isSomeShut_15 (by decide) (fun h15 => ?_) (fun h15 => ?_)
    · refine z_iincN (pc := 20) dX7_isSomeShut_20 rfl (by decide) rfl rfl ?_
      refine z_goto (pc := 23) (tgt := 3) dX7_isSomeShut_23 (by decide) ?_
      exact ih _ (by omega) (b := b + 1) (by omega) rfl
    · refine z_iconst (pc := 18) (v := (nI 1)) dX7_isSomeShut_18 (by decide) ?_
      exact z_ireturn (pc := 19) dX7_isSomeShut_19 rfl (by decide) (⟨Or.inr rfl, rfl⟩)
set_option maxRecDepth 20000 in
theorem m_isSomeShut {μ : z_Sto} : z_R layM iX7_isSomeShut 0 [some (.ref 0), none] [] μ (fun r μ' => ∃ v, r = some (.int v) ∧ μ' = μ) := by
  refine z_bipush (pc := 0) (v := (nI 16)) dX7_isSomeShut_0 (by decide) ?_
  refine z_istore_n (pc := 2) dX7_isSomeShut_2 (by decide) rfl rfl ?_
  exact (m_iss (b := 16) (by decide)).mono (fun r μ' g => g.1.elim (fun q => ⟨_, q, g.2⟩) (fun q => ⟨_, q, g.2⟩))
