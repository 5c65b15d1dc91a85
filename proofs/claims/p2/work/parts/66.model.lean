/-! the reference: line, rule, tick, mark -/
def m_ln (n : Nat) (k g : Int32) (μ : z_Sto) : z_Sto := z_up (m_beg 0 n (z_up (z_up μ 2 n k) 3 n g)) 0 1 (nI (n + 1))
theorem m_ln_fr {n c : Nat} {k g : Int32} {μ : z_Sto} (h : c ≠ 0 ∧ c ≠ 2 ∧ c ≠ 3 ∧ (c < 11 ∨ 15 < c)) : m_ln n k g μ c = μ c := by
  rw [m_ln, z_up_ne _ _ _ h.1, m_beg_fr h.2.2.2, z_up_ne _ _ _ h.2.2.1, z_up_ne _ _ _ h.2.1]
theorem m_ln_2 {n : Nat} {k g : Int32} {μ : z_Sto} : m_ln n k g μ 2 = upd (μ 2) n k := by
  rw [m_ln, z_up_ne _ _ _ (by decide), m_beg_fr (by decide), z_up_ne _ _ _ (by decide), z_up_same]
theorem m_ln_3 {n : Nat} {k g : Int32} {μ : z_Sto} : m_ln n k g μ 3 = upd (μ 3) n g := by
  rw [m_ln, z_up_ne _ _ _ (by decide), m_beg_fr (by decide), z_up_same, z_up_ne _ _ _ (by decide)]
theorem m_ln_0 {n j : Nat} {k g : Int32} {μ : z_Sto} (h : j ≠ 1) : m_ln n k g μ 0 j = μ 0 j := by
  rw [m_ln, z_up_same, z_upd_n h, m_beg_fr (by decide), z_up_ne _ _ _ (by decide), z_up_ne _ _ _ (by decide)]
theorem m_ln_inv {μ : z_Sto} {n e h t : Nat} {k g : Int32} {T O : Nat → List Nat} (H : m_inv μ n e h t T O) (hn : n < 12) (hk : x_lok k g) : m_inv (m_ln n k g μ) (n + 1) e h t T O := by
  obtain ⟨⟨a1, a2, a3, a4, a5, a6, a7, a8, a9, a10⟩, N, ⟨c1, c2, c3, c4, c5⟩⟩ := H
  refine ⟨⟨by rw [m_ln, z_up_same, z_upd_s], by omega, by rw [m_ln_0 (by decide)]; exact a3, a4, ?_, ?_, by rw [m_ln_fr (by decide)]; exact a7, a8, a9, ?_⟩, m_num_fr N (fun c hc => m_ln_fr (by omega)), ?_⟩
  · intro l hl
    unfold m_bok
    rw [m_ln_2, m_ln_3]
    by_cases q : l = n
    · subst q
      rw [z_upd_s, z_upd_s]
      exact hk.2
    · rw [z_upd_n q, z_upd_n q]
      exact a5 l (by omega)
  · intro j hj
    obtain ⟨l', k', t', h1, h2, h3, h4, h5, h6⟩ := a6 j hj
    exact ⟨l', k', t', by omega, h2, h3, by rw [m_ln_fr (by decide)]; exact h4, by rw [m_ln_fr (by decide)]; exact h5, by rw [m_ln_fr (by decide)]; exact h6⟩
  · intro i
    rw [m_ln, z_up_ne _ _ _ (by decide), m_beg, z_up_ne _ _ _ (by decide), m_bg, z_up_ne _ _ _ (by decide), z_up_ne _ _ _ (by decide), z_up_ne _ _ _ (by decide), z_up_at, if_pos rfl]
    split
    · exact Or.inr rfl
    · rw [z_up_ne _ _ _ (by decide), z_up_ne _ _ _ (by decide)]; exact a10 i
  · have := m_net_fr (τ := m_ln n k g μ) ⟨c1, c2, c3, c4, c5⟩ (fun c hc => m_ln_fr (by omega))
    refine ⟨this.1, this.2.1, this.2.2.1, this.2.2.2.1, fun p hp => ?_⟩
    rcases this.2.2.2.2 p hp with q | ⟨m, q1, q2⟩
    · exact Or.inl q
    · exact Or.inr ⟨m, by omega, q2⟩
def m_pubL (τ μ : z_Sto) : Prop := τ 1 = μ 1 ∧ τ 4 = μ 4 ∧ τ 5 0 = μ 5 0 ∧ τ 20 = μ 20
set_option maxRecDepth 20000 in
theorem m_line26 {μ : z_Sto} {n e h t : Nat} {k g : Int32} {T O : Nat → List Nat} (H : m_inv μ n e h t T O) (hk : x_lok k g) : z_R layM iX7_line 26 [some (.ref 0), some (.int k), some (.int g)] [] μ (fun r μ' => (¬ x_lok k g ∧ r = some (.int (-2)) ∧ μ' = μ) ∨ (x_lok k g ∧ n = 12 ∧ r = some (.int (-4)) ∧ μ' = μ) ∨ (x_lok k g ∧ n < 12 ∧ r = some (.int (nI n)) ∧ m_inv μ' (n + 1) e h t T O ∧ m_pubL μ' μ)) := by
  have h12 := H.1.2.1
  refine z_aload_n (pc := 26) dX7_line_26 rfl ?_
  refine z_getI (pc := 27) f_X7_115 dX7_line_27 (by decide) rfl rfl ?_
  rw [H.1.1]
  refine z_bipush (pc := 30) (v := (nI 12)) dX7_line_30 (by decide) ?_
  refine z_icmp_ne (pc := 32) (tgt := 38) dX7_line_32 (by decide) (fun h32 => ?_) (fun h32 => ?_)
  · have q32 : n < 12 := by have : n ≠ 12 := fun q => h32 (by rw [q]); omega
    refine z_aload_n (pc := 38) dX7_line_38 rfl ?_
    refine z_getA (pc := 39) f_X7_13 dX7_line_39 (by decide) rfl rfl ?_
    refine z_aload_n (pc := 42) dX7_line_42 rfl ?_
    refine z_getI (pc := 43) f_X7_115 dX7_line_43 (by decide) rfl rfl ?_
    rw [H.1.1]
    refine z_iload_n (pc := 46) dX7_line_46 rfl ?_
    refine z_iastN (pc := 47) dX7_line_47 (by decide) rfl (by decide) (q32) ?_
    refine z_aload_n (pc := 48) dX7_line_48 rfl ?_
    refine z_getA (pc := 49) f_X7_16 dX7_line_49 (by decide) rfl rfl ?_
    refine z_aload_n (pc := 52) dX7_line_52 rfl ?_
    refine z_getI (pc := 53) f_X7_115 dX7_line_53 (by decide) rfl rfl ?_
    simp only [z_up_at, reduceIte, Nat.reduceEqDiff, H.1.1]
    refine z_iload_n (pc := 56) dX7_line_56 rfl ?_
    refine z_iastN (pc := 57) dX7_line_57 (by decide) rfl (by decide) (q32) ?_
    refine z_aload_n (pc := 58) dX7_line_58 rfl ?_
    refine z_iconst (pc := 59) (v := (nI 0)) dX7_line_59 (by decide) ?_
    refine z_aload_n (pc := 60) dX7_line_60 rfl ?_
    refine z_getI (pc := 61) f_X7_115 dX7_line_61 (by decide) rfl rfl ?_
    simp only [z_up_at, reduceIte, Nat.reduceEqDiff, H.1.1]
    refine z_cV2 (pc := 64) mX7_begins l_X7_128 (by decide) dX7_line_64 (by decide) rfl rfl (by decide) (Nat.le_of_ble_eq_true rfl) (m_begins (by decide) q32 (by unfold m_bok; rw [z_up_ne _ _ _ (by decide), z_up_same, z_upd_s, z_up_same, z_upd_s]; exact hk.2)) rfl (fun r64 σ64 hr64 => ?_)
    obtain ⟨er64, eσ64⟩ := hr64
    subst er64
    have e01 : σ64 0 1 = nI n := by rw [eσ64, m_beg_fr (by decide), z_up_ne _ _ _ (by decide), z_up_ne _ _ _ (by decide)]; exact H.1.1
    refine z_aload_n (pc := 67) dX7_line_67 rfl ?_
    refine z_dup_a (pc := 68) dX7_line_68 ?_
    refine z_getI (pc := 69) f_X7_115 dX7_line_69 (by decide) rfl rfl ?_
    rw [e01]
    refine z_iconst (pc := 72) (v := (nI 1)) dX7_line_72 (by decide) ?_
    refine z_iaddN (pc := 73) dX7_line_73 ?_
    refine z_putI (pc := 74) f_X7_115 tyX7_ok nmX7 (by decide) rfl rfl rfl dX7_line_74 (by decide) rfl rfl ?_
    refine z_aload_n (pc := 77) dX7_line_77 rfl ?_
    refine z_getI (pc := 78) f_X7_115 dX7_line_78 (by decide) rfl rfl ?_
    rw [show z_up σ64 0 1 (nI (n + 1)) 0 1 = nI (n + 1) by rw [z_up_same, z_upd_s]]
    refine z_iconst (pc := 81) (v := (nI 1)) dX7_line_81 (by decide) ?_
    refine z_isub (pc := 82) dX7_line_82 ?_
    rw [show nI (n + 1) - nI 1 = nI n by rw [pk_sub (by omega)]; rfl]
    exact z_ireturn (pc := 83) dX7_line_83 rfl rfl (Or.inr (Or.inr ⟨hk, q32, rfl, by rw [eσ64]; exact m_ln_inv H q32 hk, by rw [eσ64]; exact ⟨m_ln_fr (by decide), m_ln_fr (by decide), by rw [show z_up (m_beg 0 n (z_up (z_up μ 2 n k) 3 n g)) 0 1 (nI (n + 1)) = m_ln n k g μ from rfl, m_ln_fr (by decide)], m_ln_fr (by decide)⟩⟩))
  · have q32 : n = 12 := z_nI_inj (by omega) (by decide) h32
    refine z_bipush (pc := 35) (v := (-4)) dX7_line_35 (by decide) ?_
    exact z_ireturn (pc := 37) dX7_line_37 rfl rfl (Or.inr (Or.inl ⟨hk, q32, rfl, rfl⟩))
set_option maxRecDepth 20000 in
theorem m_line {μ : z_Sto} {n e h t : Nat} {k g : Int32} {T O : Nat → List Nat} (H : m_inv μ n e h t T O) : z_R layM iX7_line 0 [some (.ref 0), some (.int k), some (.int g)] [] μ (fun r μ' => (¬ x_lok k g ∧ r = some (.int (-2)) ∧ μ' = μ) ∨ (x_lok k g ∧ n = 12 ∧ r = some (.int (-4)) ∧ μ' = μ) ∨ (x_lok k g ∧ n < 12 ∧ r = some (.int (nI n)) ∧ m_inv μ' (n + 1) e h t T O ∧ m_pubL μ' μ)) := by
  refine z_iload_n (pc := 0) dX7_line_0 rfl ?_
  refine z_iconst (pc := 1) (v := (nI 0)) dX7_line_1 (by decide) ?_
  refine z_iconst (pc := 2) (v := (nI 2)) dX7_line_2 (by decide) ?_
  refine z_cS3 (pc := 3) mX7_in l_X7_124 (by decide) dX7_line_3 (by decide) (Nat.le_of_ble_eq_true rfl) (m_in) rfl (fun r3 σ3 hr3 => ?_)
  obtain ⟨v3, rfl, g1, g2, rfl⟩ := hr3
  refine z_if_eq (pc := 6) (tgt := 23) dX7_line_6 (by decide) (fun h6 => ?_) (fun h6 => ?_)
  · refine z_bipush (pc := 23) (v := (-2)) dX7_line_23 (by decide) ?_
    exact z_ireturn (pc := 25) dX7_line_25 rfl rfl (Or.inl ⟨fun q => by first | exact g2 h6 ((m_in_k (m := 2) (by decide)).mpr q.1) | exact g4 h20 ((m_in_k (m := 3) (by decide)).mpr (q.2 h11)), rfl, rfl⟩)
  · refine z_iload_n (pc := 9) dX7_line_9 rfl ?_
    refine z_iconst (pc := 10) (v := (nI 1)) dX7_line_10 (by decide) ?_
    refine z_icmp_ne (pc := 11) (tgt := 26) dX7_line_11 (by decide) (fun h11 => ?_) (fun h11 => ?_)
    · exact m_line26 H ⟨(m_in_k (m := 2) (by decide)).mp (g1 h6), fun e => by first | exact absurd e h11 | exact (m_in_k (m := 3) (by decide)).mp (g3 h20)⟩
    · refine z_iload_n (pc := 14) dX7_line_14 rfl ?_
      refine z_iconst (pc := 15) (v := (nI 0)) dX7_line_15 (by decide) ?_
      refine z_iconst (pc := 16) (v := (nI 3)) dX7_line_16 (by decide) ?_
      refine z_cS3 (pc := 17) mX7_in l_X7_124 (by decide) dX7_line_17 (by decide) (Nat.le_of_ble_eq_true rfl) (m_in) rfl (fun r17 σ17 hr17 => ?_)
      obtain ⟨v17, rfl, g3, g4, rfl⟩ := hr17
      refine z_if_ne (pc := 20) (tgt := 26) dX7_line_20 (by decide) (fun h20 => ?_) (fun h20 => ?_)
      · exact m_line26 H ⟨(m_in_k (m := 2) (by decide)).mp (g1 h6), fun e => by first | exact absurd e h11 | exact (m_in_k (m := 3) (by decide)).mp (g3 h20)⟩
      · refine z_bipush (pc := 23) (v := (-2)) dX7_line_23 (by decide) ?_
        exact z_ireturn (pc := 25) dX7_line_25 rfl rfl (Or.inl ⟨fun q => by first | exact g2 h6 ((m_in_k (m := 2) (by decide)).mpr q.1) | exact g4 h20 ((m_in_k (m := 3) (by decide)).mpr (q.2 h11)), rfl, rfl⟩)
set_option maxRecDepth 20000 in
theorem m_mark {μ : z_Sto} {n e h t : Nat} {x m : Int32} {T O : Nat → List Nat} (H : m_inv μ n e h t T O) : z_R layM iX7_mark 0 [some (.ref 0), some (.int x), some (.int m), none] [] μ (fun r μ' => (¬ ((∃ i, i < n ∧ x = nI i) ∧ (∃ j, j < 3 ∧ m = nI j)) ∧ r = some (.int (-2)) ∧ μ' = μ) ∨ (∃ i j, i < n ∧ j < 3 ∧ x = nI i ∧ m = nI j ∧ r = some (.int (μ 4 i)) ∧ μ' = z_up μ 4 i (nI j))) := by
  have h12 := H.1.2.1
  refine z_aload_n (pc := 0) dX7_mark_0 rfl ?_
  refine z_iload_n (pc := 1) dX7_mark_1 rfl ?_
  refine z_cV1 (pc := 2) mX7_isLine l_X7_154 (by decide) dX7_mark_2 (by decide) rfl rfl (by decide) (Nat.le_of_ble_eq_true rfl) (m_isLine H.1.1 H.1.2.1) rfl (fun r2 σ2 hr2 => ?_)
  obtain ⟨v2, rfl, g1, g2, rfl⟩ := hr2
  refine z_if_eq (pc := 5) (tgt := 17) dX7_mark_5 (by decide) (fun h5 => ?_) (fun h5 => ?_)
  · refine z_bipush (pc := 17) (v := (-2)) dX7_mark_17 (by decide) ?_
    exact z_ireturn (pc := 19) dX7_mark_19 rfl rfl (Or.inl ⟨fun q => by first | (obtain ⟨⟨i, hi, e⟩, -⟩ := q; exact g2 h5 i hi e) | exact g4 h14 ((m_in_k (m := 2) (by decide)).mpr q.2), rfl, rfl⟩)
  · obtain ⟨i, hi, rfl⟩ := g1 h5
    refine z_iload_n (pc := 8) dX7_mark_8 rfl ?_
    refine z_iconst (pc := 9) (v := (nI 0)) dX7_mark_9 (by decide) ?_
    refine z_iconst (pc := 10) (v := (nI 2)) dX7_mark_10 (by decide) ?_
    refine z_cS3 (pc := 11) mX7_in l_X7_124 (by decide) dX7_mark_11 (by decide) (Nat.le_of_ble_eq_true rfl) (m_in) rfl (fun r11 σ11 hr11 => ?_)
    obtain ⟨v11, rfl, g3, g4, rfl⟩ := hr11
    refine z_if_ne (pc := 14) (tgt := 20) dX7_mark_14 (by decide) (fun h14 => ?_) (fun h14 => ?_)
    · obtain ⟨j, hj, rfl⟩ := (m_in_k (m := 2) (by decide)).mp (g3 h14)
      refine z_aload_n (pc := 20) dX7_mark_20 rfl ?_
      refine z_getA (pc := 21) f_X7_19 dX7_mark_21 (by decide) rfl rfl ?_
      refine z_iload_n (pc := 24) dX7_mark_24 rfl ?_
      refine z_ialdN (pc := 25) dX7_mark_25 (by decide) rfl (by decide) (by omega) ?_
      refine z_istore_n (pc := 26) dX7_mark_26 (by decide) rfl rfl ?_
      refine z_aload_n (pc := 27) dX7_mark_27 rfl ?_
      refine z_getA (pc := 28) f_X7_19 dX7_mark_28 (by decide) rfl rfl ?_
      refine z_iload_n (pc := 31) dX7_mark_31 rfl ?_
      refine z_iload_n (pc := 32) dX7_mark_32 rfl ?_
      refine z_iastN (pc := 33) dX7_mark_33 (by decide) rfl (by decide) (by omega) ?_
      refine z_iload_n (pc := 34) dX7_mark_34 rfl ?_
      exact z_ireturn (pc := 35) dX7_mark_35 rfl rfl (Or.inr ⟨i, j, hi, hj, rfl, rfl, rfl, rfl⟩)
    · refine z_bipush (pc := 17) (v := (-2)) dX7_mark_17 (by decide) ?_
      exact z_ireturn (pc := 19) dX7_mark_19 rfl rfl (Or.inl ⟨fun q => by first | (obtain ⟨⟨i, hi, e⟩, -⟩ := q; exact g2 h5 i hi e) | exact g4 h14 ((m_in_k (m := 2) (by decide)).mpr q.2), rfl, rfl⟩)
theorem m_up_inv {μ : z_Sto} {n e h t c k : Nat} {v : Int32} {T O : Nat → List Nat} (H : m_inv μ n e h t T O) (hc : c = 4 ∨ c = 19 ∨ (25 < c)) : m_inv (z_up μ c k v) n e h t T O :=
  ⟨m_ok_fr H.1 (fun i => by rw [z_up_ne _ _ _ (by omega)]; exact H.1.2.2.2.2.2.2.2.2.2 i) (by rw [z_up_ne _ _ _ (by omega)]) (by rw [z_up_ne _ _ _ (by omega)]) (fun d hd => z_up_ne _ _ _ (by omega)), m_num_fr H.2.1 (fun d hd => z_up_ne _ _ _ (by omega)), m_net_fr H.2.2 (fun d hd => z_up_ne _ _ _ (by omega))⟩
theorem m_tk_inv {μ : z_Sto} {n e h t : Nat} {T O : Nat → List Nat} (H : m_inv μ n e h t T O) (ht : t + 1 ≤ 2000) : m_inv (m_ticks 0 n μ) n e h (t + 1) T O := by
  obtain ⟨a1, ⟨b1, b2, b3, b4, b5, b6⟩, a3⟩ := H
  refine ⟨m_ok_fr a1 (fun i => by rw [m_ticks_fr (by decide)]; exact a1.2.2.2.2.2.2.2.2.2 i) (by rw [m_ticks_fr (by decide)]) (by rw [m_ticks_fr (by decide)]) (fun c hc => m_ticks_fr (by omega)), ⟨ht, by rw [m_ticks_5, z_upd_s, b2, nI_add], fun b hb => ?_, by rw [m_ticks_fr (by decide)]; exact b4, by rw [m_ticks_fr (by decide)]; exact b5, by rw [m_ticks_fr (by decide)]; exact b6⟩, m_net_fr a3 (fun c hc => m_ticks_fr (by omega))⟩
  obtain ⟨p, s, h1, h2, h3, h4⟩ := b3 b hb
  exact ⟨p, s, h1, by omega, by rw [m_ticks_fr (by decide)]; exact h3, by rw [m_ticks_fr (by decide)]; exact h4⟩
set_option maxRecDepth 20000 in
theorem m_tickl {μ : z_Sto} {n e h t m i : Nat} {T O : Nat → List Nat} (H : m_inv μ n e h (t + i) T O) (hi : i ≤ m) (hm : m ≤ 200) (htm : t + m ≤ 2000) : z_R layM iX7_tick 33 [some (.ref 0), some (.int (nI m)), some (.int (nI i))] [] μ (fun r μ' => r = some (.int (nI (t + m))) ∧ m_inv μ' n e h (t + m) T O ∧ μ' 1 = μ 1 ∧ μ' 4 = μ 4 ∧ μ' 20 = μ 20 ∧ μ' 0 = μ 0) := by
  generalize hf : m - i = f
  induction f using Nat.strongRecOn generalizing i μ
  rename_i f ih
  refine z_iload_n (pc := 33) dX7_tick_33 rfl ?_
  refine z_iload_n (pc := 34) dX7_tick_34 rfl ?_
  refine z_icmp_ge (pc := 35) (tgt := 49) dX7_tick_35 (by decide) (fun h35 => ?_) (fun h35 => ?_)
  · have q35 : i = m := by have := (nI_leI (by omega) (by omega)).mp h35; omega
    refine z_aload_n (pc := 49) dX7_tick_49 rfl ?_
    refine z_getA (pc := 50) f_X7_22 dX7_tick_50 (by decide) rfl rfl ?_
    refine z_iconst (pc := 53) (v := (nI 0)) dX7_tick_53 (by decide) ?_
    refine z_ialdN (pc := 54) dX7_tick_54 (by decide) rfl (by decide) (by decide) ?_
    exact z_ireturn (pc := 55) dX7_tick_55 rfl rfl (⟨by rw [H.2.1.2.1, q35], by rw [q35] at H; exact H, rfl, rfl, rfl, rfl⟩)
  · have q35 : i < m := by have : ¬ m ≤ i := fun q => h35 ((nI_leI (by omega) (by omega)).mpr q); omega
    refine z_aload_n (pc := 38) dX7_tick_38 rfl ?_
    refine z_iconst (pc := 39) (v := (nI 0)) dX7_tick_39 (by decide) ?_
    refine z_cV1 (pc := 40) mX7_ticks l_X7_161 (by decide) dX7_tick_40 (by decide) rfl rfl (by decide) (Nat.le_of_ble_eq_true rfl) (m_ticksC (by decide) H.1.1 H.1.2.1 H.1.2.2.2.2.1 H.1.2.2.2.2.2.2.1 H.1.2.2.2.2.2.2.2.1 H.1.2.2.2.2.2.2.2.2.1) rfl (fun r40 σ40 hr40 => ?_)
    obtain ⟨er40, eσ40⟩ := hr40
    subst er40
    have H1 : m_inv σ40 n e h (t + (i + 1)) T O := by rw [eσ40]; exact m_tk_inv (t := t + i) H (by omega)
    refine z_iincN (pc := 43) dX7_tick_43 rfl (by decide) rfl rfl ?_
    refine z_goto (pc := 46) (tgt := 33) dX7_tick_46 (by decide) ?_
    exact (ih _ (by omega) (i := i + 1) H1 (by omega) rfl).mono (fun r μ' g => ⟨g.1, g.2.1, g.2.2.1.trans (by rw [eσ40, m_ticks_fr (by decide)]), g.2.2.2.1.trans (by rw [eσ40, m_ticks_fr (by decide)]), g.2.2.2.2.1.trans (by rw [eσ40, m_ticks_fr (by decide)]), g.2.2.2.2.2.trans (by rw [eσ40, m_ticks_fr (by decide)])⟩)
set_option maxRecDepth 20000 in
theorem m_tick {μ : z_Sto} {n e h t : Nat} {m : Int32} {T O : Nat → List Nat} (H : m_inv μ n e h t T O) : z_R layM iX7_tick 0 [some (.ref 0), some (.int m), none] [] μ (fun r μ' => ((m < nI 1 ∨ nI 200 < m) ∧ r = some (.int (-2)) ∧ μ' = μ) ∨ (¬ (m < nI 1 ∨ nI 200 < m) ∧ nI 2000 < μ 5 0 + m ∧ r = some (.int (-4)) ∧ μ' = μ) ∨ (¬ (m < nI 1 ∨ nI 200 < m) ∧ ¬ nI 2000 < μ 5 0 + m ∧ r = some (.int (μ 5 0 + m)) ∧ (∃ t', m_inv μ' n e h t' T O) ∧ μ' 5 0 = μ 5 0 + m ∧ μ' 1 = μ 1 ∧ μ' 4 = μ 4 ∧ μ' 20 = μ 20 ∧ μ' 0 = μ 0)) := by
  have ht := H.2.1.1
  refine z_iload_n (pc := 0) dX7_tick_0 rfl ?_
  refine z_iconst (pc := 1) (v := (nI 1)) dX7_tick_1 (by decide) ?_
  refine z_sipush (pc := 2) (v := (nI 200)) dX7_tick_2 (by decide) ?_
  refine z_cS3 (pc := 5) mX7_in l_X7_124 (by decide) dX7_tick_5 (by decide) (Nat.le_of_ble_eq_true rfl) (m_in) rfl (fun r5 σ5 hr5 => ?_)
  obtain ⟨v5, rfl, g1, g2, rfl⟩ := hr5
  refine z_if_ne (pc := 8) (tgt := 14) dX7_tick_8 (by decide) (fun h8 => ?_) (fun h8 => ?_)
  · have q8 : ¬ (m < nI 1 ∨ nI 200 < m) := fun q => q.elim (fun q => z_nle q (g1 h8).1) (fun q => z_nle q (g1 h8).2)
    obtain ⟨k, hk, rfl⟩ := (m_in_k (m := 200) (by decide)).mp ⟨Int32.le_trans (by decide) (g1 h8).1, (g1 h8).2⟩
    refine z_aload_n (pc := 14) dX7_tick_14 rfl ?_
    refine z_getA (pc := 15) f_X7_22 dX7_tick_15 (by decide) rfl rfl ?_
    refine z_iconst (pc := 18) (v := (nI 0)) dX7_tick_18 (by decide) ?_
    refine z_ialdN (pc := 19) dX7_tick_19 (by decide) rfl (by decide) (by decide) ?_
    refine z_iload_n (pc := 20) dX7_tick_20 rfl ?_
    refine z_iadd (pc := 21) dX7_tick_21 ?_
    refine z_sipush (pc := 22) (v := (nI 2000)) dX7_tick_22 (by decide) ?_
    refine z_icmp_le (pc := 25) (tgt := 31) dX7_tick_25 (by decide) (fun h25 => ?_) (fun h25 => ?_)
    · have q25 : t + k ≤ 2000 := by rw [H.2.1.2.1, nI_add] at h25; exact (nI_leI (by omega) (by decide)).mp h25
      refine z_iconst (pc := 31) (v := (nI 0)) dX7_tick_31 (by decide) ?_
      refine z_istore_n (pc := 32) dX7_tick_32 (by decide) rfl rfl ?_
      exact (m_tickl (i := 0) (t := t) H (by omega) (by omega) q25).mono (fun r μ' u => Or.inr (Or.inr ⟨q8, fun q => z_nle q h25, by rw [H.2.1.2.1, nI_add]; exact u.1, ⟨_, u.2.1⟩, by rw [H.2.1.2.1, nI_add]; exact u.2.1.2.1.2.1, u.2.2⟩))
    · refine z_bipush (pc := 28) (v := (-4)) dX7_tick_28 (by decide) ?_
      exact z_ireturn (pc := 30) dX7_tick_30 rfl rfl (Or.inr (Or.inl ⟨q8, by rw [← Int32.not_le]; exact h25, rfl, rfl⟩))
  · refine z_bipush (pc := 11) (v := (-2)) dX7_tick_11 (by decide) ?_
    exact z_ireturn (pc := 13) dX7_tick_13 rfl rfl (Or.inl ⟨by (by_cases q : m < nI 1; exact Or.inl q; exact Or.inr (by rw [← Int32.not_le]; exact fun q2 => g2 h8 ⟨z_nlt q, q2⟩)), rfl, rfl⟩)
