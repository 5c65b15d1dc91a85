/-! the reference: a rule keeps the numbers within their bounds -/
theorem m_rng {v : Int32} {lo hi : Nat} (hh : hi < 2 ^ 30) (h1 : nI lo ≤ v) (h2 : v ≤ nI hi) (hl : lo ≤ hi) : ∃ j, lo ≤ j ∧ j ≤ hi ∧ v = nI j := by
  obtain ⟨j, hj, rfl⟩ := (m_in_k (m := hi) (by omega)).mp ⟨Int32.le_trans (nI_le (a := 0) (by omega) (by omega)) h1, h2⟩
  exact ⟨j, (nI_leI (by omega) (by omega)).mp h1, by omega, rfl⟩
def m_pens (μ : z_Sto) (t : Nat) : Prop := ∀ b, b < 16 → ∃ p s, p ≤ 100000 ∧ s ≤ t ∧ μ 8 b = nI p ∧ μ 9 b = nI s
theorem m_r1_pens {μ : z_Sto} {t h s : Nat} (hp : m_pens μ t) (ht : t ≤ 2000) (h5 : μ 5 0 = nI t) (hh : μ 1 3 = nI h) (h1 : 1 ≤ h) (h2 : h ≤ 500) (hs : s < 16) : m_pens (m_r1 s μ) t := by
  intro b hb
  by_cases q : b = s
  · subst q
    obtain ⟨p, s', g1, g2, g3, g4⟩ := hp b hb
    refine ⟨fadeN p (t - s') h, t, Nat.le_trans fadeN_le g1, Nat.le_refl t, ?_, ?_⟩
    · rw [m_r1, z_up_ne _ _ _ (by decide), z_up_same, z_upd_s, g3, g4, h5, hh, pk_sub g2, m_fade_n g1 (by omega) h1 h2]
    · rw [m_r1, z_up_same, z_upd_s, h5]
  · obtain ⟨p, s', g1, g2, g3, g4⟩ := hp b hb
    refine ⟨p, s', g1, g2, ?_, ?_⟩
    · rw [m_r1, z_up_ix q, z_up_ix q]; exact g3
    · rw [m_r1, z_up_ix q, z_up_ix q]; exact g4
theorem m_rp_pens {t h : Nat} (ht : t ≤ 2000) (h1 : 1 ≤ h) (h2 : h ≤ 500) : ∀ (f s : Nat) (μ : z_Sto), s + f ≤ 16 → m_pens μ t → μ 5 0 = nI t → μ 1 3 = nI h → m_pens (m_rp f s μ) t
  | 0, _, _, _, hp, _, _ => hp
  | f + 1, s, μ, hs, hp, h5, hh => by
    rw [m_rp]
    exact m_rp_pens ht h1 h2 f (s + 1) _ (by omega) (m_r1_pens hp ht h5 hh h1 h2 (by omega)) (by rw [m_r1, z_up_ne _ _ _ (by decide), z_up_ne _ _ _ (by decide)]; exact h5) (by rw [m_r1, z_up_ne _ _ _ (by decide), z_up_ne _ _ _ (by decide)]; exact hh)
theorem m_rul_inv {μ : z_Sto} {n e h t k : Nat} {v : Int32} {T O : Nat → List Nat} (H : m_inv μ n e h t T O) (hk : k < 8) (ha : m_adm μ (nI k) v) : ∃ h', m_inv (m_rul k v μ) n e h' t T O := by
  obtain ⟨⟨a1, a2, a3, a4, a5, a6, a7, a8, a9, a10⟩, ⟨b1, b2, b3, b4, b5, b6⟩, N⟩ := H
  obtain ⟨l1, l2, -, -⟩ := (m_adm_iff hk).mp ha
  have hh : ∃ h', m_rul k v μ 1 3 = nI h' ∧ 1 ≤ h' ∧ h' ≤ 500 := by
    rw [m_rul_1]
    by_cases q : k = 3
    · subst q
      rw [z_upd_s]
      exact x_half_v l1 l2
    · rw [z_upd_n (Ne.symm q)]
      exact ⟨h, a7, a8, a9⟩
  obtain ⟨h', g1, g2, g3⟩ := hh
  have e5 : ∃ o, 1 ≤ o ∧ o ≤ 20000 ∧ m_rul k v μ 1 5 = nI o := by
    rw [m_rul_1]
    by_cases q : k = 5
    · subst q
      rw [z_upd_s]
      exact m_rng (by decide) (show nI 1 ≤ v from l1) (show v ≤ nI 20000 from l2) (by decide)
    · rw [z_upd_n (Ne.symm q)]
      exact b4
  have e6 : ∃ o, 1 ≤ o ∧ o ≤ 100000 ∧ m_rul k v μ 1 6 = nI o := by
    rw [m_rul_1]
    by_cases q : k = 6
    · subst q
      rw [z_upd_s]
      exact m_rng (by decide) (show nI 1 ≤ v from l1) (show v ≤ nI 100000 from l2) (by decide)
    · rw [z_upd_n (Ne.symm q)]
      exact b5
  have e0 : ∀ j, j < 3 → ∃ u, u ≤ 10000 ∧ m_rul k v μ 1 j = nI u := by
    intro j hj
    rw [m_rul_1]
    by_cases q : j = k
    · subst q
      rw [z_upd_s]
      have e1 : z_least j = nI 0 := by rcases (show j = 0 ∨ j = 1 ∨ j = 2 by omega) with rfl | rfl | rfl <;> decide
      have e2 : z_most j = nI 10000 := by rcases (show j = 0 ∨ j = 1 ∨ j = 2 by omega) with rfl | rfl | rfl <;> decide
      rw [e1] at l1
      rw [e2] at l2
      obtain ⟨u, -, u2, u3⟩ := m_rng (by decide) l1 l2 (by decide)
      exact ⟨u, u2, u3⟩
    · rw [z_upd_n q]
      exact b6 j hj
  have hpn := m_rp_pens (h := h) b1 a8 a9 16 0 μ (by decide) b3 b2 a7
  refine ⟨h', ⟨by rw [m_rul_fr (by decide)]; exact a1, a2, by rw [m_rul_fr (by decide)]; exact a3, a4, m_bs_fr a5 (m_rul_fr (by decide)) (m_rul_fr (by decide)), by rw [m_rul_fr (by decide), m_rul_fr (by decide), m_rul_fr (by decide)]; exact a6, g1, g2, g3, fun i => by rw [m_rul_fr (by decide)]; exact a10 i⟩, ⟨b1, by rw [m_rul_fr (by decide)]; exact b2, ?_, e5, e6, e0⟩, m_net_fr N (fun c hc => m_rul_fr (by omega))⟩
  intro b hb
  have e8 : m_rul k v μ 8 = m_rp 16 0 μ 8 := by rw [m_rul, z_up_ne _ _ _ (by decide), z_up_ne _ _ _ (by decide), z_up_ne _ _ _ (by decide)]
  have e9 : m_rul k v μ 9 = m_rp 16 0 μ 9 := by rw [m_rul, z_up_ne _ _ _ (by decide), z_up_ne _ _ _ (by decide), z_up_ne _ _ _ (by decide)]
  rw [e8, e9]
  exact hpn b hb
