/-! CalmLines: line, rule, tick, mark, way, bind -/
def x_lok (k g : Int32) : Prop := (∃ j, j < 3 ∧ k = nI j) ∧ (k = nI 1 → ∃ j, j < 4 ∧ g = nI j)
theorem x_slot_of {k g : Int32} {n : Nat} (h : x_lok k g) (hn : n < 12) : ∃ s, s < 16 ∧ (if k = nI 1 then nI 12 + g else nI n) = nI s := by
  by_cases e : k = nI 1
  · obtain ⟨j, hj, rfl⟩ := h.2 e
    exact ⟨12 + j, by omega, by rw [if_pos e, nI_add]⟩
  · exact ⟨n, by omega, by rw [if_neg e]⟩
def x_ent (n : Nat) (k g : Int32) (σ : z_Sto) : z_Sto := z_up (z_up (z_up σ 4 n k) 5 n (if k = nI 1 then nI 12 + g else nI n)) 3 3 (nI (n + 1))
theorem x_ent_fr {n c : Nat} {k g : Int32} {σ : z_Sto} (h : c ≠ 3 ∧ c ≠ 4 ∧ c ≠ 5) : x_ent n k g σ c = σ c := by
  rw [x_ent, z_up_ne _ _ _ h.1, z_up_ne _ _ _ h.2.2, z_up_ne _ _ _ h.2.1]
theorem x_ent_5 {n i : Nat} {k g : Int32} {σ : z_Sto} (h : i ≠ n) : x_ent n k g σ 5 i = σ 5 i := by
  simp [x_ent, z_up_at, h]
theorem x_ent_5n {n : Nat} {k g : Int32} {σ : z_Sto} : x_ent n k g σ 5 n = (if k = nI 1 then nI 12 + g else nI n) := by
  simp [x_ent, z_up_at]
theorem x_ent_inv {σ : z_Sto} {n e h : Nat} {k g : Int32} {T O : Nat → List Nat} (H : x_inv σ n e h T O) (hn : n < 12) (hk : x_lok k g) : x_inv (x_ent n k g σ) (n + 1) e h T O := by
  obtain ⟨⟨b1, b2, b3, b4, b5, b6, b7⟩, a2, a3, a4, a5, a6, a7⟩ := H
  refine ⟨⟨by rw [x_ent, z_up_same, z_upd_s], by omega, by rw [x_ent_fr (by decide)]; exact b3, b4, ?_, by rw [x_ent_fr (by decide)]; exact b6, b7⟩, ?_, ?_, ?_, ⟨a5.1, ?_⟩, ?_, ?_⟩
  · intro j hj
    obtain ⟨i', w', s', h1, h2, h3, h4, h5, h6⟩ := b5 j hj
    exact ⟨i', w', s', by omega, h2, h3, by rw [x_ent_fr (by decide)]; exact h4, by rw [x_ent_fr (by decide)]; exact h5, by rw [x_ent_5 (by omega)]; exact h6⟩
  · intro i hi
    by_cases q : i = n
    · subst q
      rw [x_ent_5n]
      exact x_slot_of hk hn
    · rw [x_ent_5 q]
      exact a2 i (by omega)
  · exact ⟨fun j => by rw [x_ent_fr (by decide)]; exact a3.1 j, fun j => by rw [x_ent_fr (by decide)]; exact a3.2 j⟩
  · intro k hk; rw [x_ent_fr (by decide)]; exact a4 k hk
  · intro k hk; rw [x_ent_fr (by decide)]; exact a5.2 k hk
  · intro k hk; rw [x_ent_fr (by decide)]; exact a6 k hk
  · intro k hk
    rw [x_ent_fr (by decide)]
    rcases a7 k hk with q | ⟨m, h1, h2⟩
    · exact Or.inl q
    · exact Or.inr ⟨m, by omega, h2⟩
def x_pubL (σ' σ : z_Sto) : Prop := σ' 0 = σ 0 ∧ σ' 2 = σ 2 ∧ σ' 6 = σ 6 ∧ σ' 36 = σ 36
set_option maxRecDepth 20000 in
theorem k_line29 {σ : z_Sto} {n e h : Nat} {k g : Int32} {T O : Nat → List Nat} (H : x_inv σ n e h T O) (hk : x_lok k g) : z_R layX iX6_line 29 [some (.ref 0), some (.int k), some (.int g), none] [] σ (fun r σ' => (¬ x_lok k g ∧ r = some (.int (-2)) ∧ σ' = σ) ∨ (x_lok k g ∧ n = 12 ∧ r = some (.int (-4)) ∧ σ' = σ) ∨ (x_lok k g ∧ n < 12 ∧ r = some (.int (nI n)) ∧ x_inv σ' (n + 1) e h T O ∧ x_pubL σ' σ)) := by
  have h12 := H.1.2.1
  refine z_aload_n (pc := 29) dX6_line_29 rfl ?_
  refine z_getA (pc := 30) f_X6_19 dX6_line_30 (by decide) rfl rfl ?_
  refine z_cV0 (pc := 33) mX4_isFull l_X6_59 (by decide) dX6_line_33 (by decide) rfl rfl (by decide) (Nat.le_of_ble_eq_true rfl) (c_X4_isFull H.1.1 H.1.2.1) rfl (fun r33 σ33 hr33 => ?_)
  obtain ⟨rfl, rfl⟩ := hr33
  refine z_if_eq (pc := 36) (tgt := 42) dX6_line_36 (by decide) (fun h36 => ?_) (fun h36 => ?_)
  · have q36 : n < 12 := by (by_cases g : n < 12; exact g; exact absurd h36 (by rw [if_neg g]; decide))
    refine z_aload_n (pc := 42) dX6_line_42 rfl ?_
    refine z_getA (pc := 43) f_X6_19 dX6_line_43 (by decide) rfl rfl ?_
    refine z_iload_n (pc := 46) dX6_line_46 rfl ?_
    refine z_iload_n (pc := 47) dX6_line_47 rfl ?_
    refine z_cV2 (pc := 48) mX4_enter l_X6_63 (by decide) dX6_line_48 (by decide) rfl rfl (by decide) (Nat.le_of_ble_eq_true rfl) (c_X4_enter H.1.1 q36) rfl (fun r48 σ48 hr48 => ?_)
    obtain ⟨rfl, eσ48⟩ := hr48
    have H1 : x_inv σ48 (n + 1) e h T O := by rw [eσ48]; exact x_ent_inv H q36 hk
    obtain ⟨s, hs, hsl⟩ := H1.2.1 n (by omega)
    refine z_istore_n (pc := 51) dX6_line_51 (by decide) rfl rfl ?_
    refine z_aload_n (pc := 52) dX6_line_52 rfl ?_
    refine z_getA (pc := 53) f_X6_35 dX6_line_53 (by decide) rfl rfl ?_
    refine z_iload_n (pc := 56) dX6_line_56 rfl ?_
    refine z_cV1 (pc := 57) mX0_join l_X6_67 (by decide) dX6_line_57 (by decide) rfl rfl (by decide) (Nat.le_of_ble_eq_true rfl) (c_X0_join q36 hsl hs (H1.2.2.1.2 s)) rfl (fun r57 σ57 hr57 => ?_)
    obtain ⟨rfl, rfl⟩ := hr57
    refine z_iload_n (pc := 60) dX6_line_60 rfl ?_
    exact z_ireturn (pc := 61) dX6_line_61 rfl rfl (Or.inr (Or.inr ⟨hk, q36, rfl, x_inv_fr H1 (x_up_brd H1.2.2.1 (fun q => by omega)) (fun c hc => z_up_ne _ _ _ (by omega)), by rw [z_up_ne _ _ _ (by decide), eσ48]; exact x_ent_fr (by decide), by rw [z_up_ne _ _ _ (by decide), eσ48]; exact x_ent_fr (by decide), by rw [z_up_ne _ _ _ (by decide), eσ48]; exact x_ent_fr (by decide), by rw [z_up_ne _ _ _ (by decide), eσ48]; exact x_ent_fr (by decide)⟩))
  · have q36 : n = 12 := by (by_cases g : n < 12; exact absurd (by rw [if_pos g]; rfl) h36; omega)
    refine z_bipush (pc := 39) (v := (-4)) dX6_line_39 (by decide) ?_
    exact z_ireturn (pc := 41) dX6_line_41 rfl rfl (Or.inr (Or.inl ⟨hk, q36, rfl, rfl⟩))
theorem x_in3 {k : Int32} (h1 : ¬ k < 0) (h6 : k ≤ nI 2) : ∃ j, j < 3 ∧ k = nI j := z_ix (n := 3) (by decide) h1 (fun g => absurd (Int32.le_trans g h6) (by decide))
theorem x_no3 {k : Int32} (h6 : ¬ k ≤ nI 2) : ¬ ∃ j, j < 3 ∧ k = nI j := by
  rintro ⟨j, hj, rfl⟩
  exact h6 (nI_le (by omega) (by decide))
theorem x_no0 {k : Int32} {m : Nat} (hm : m < 2 ^ 31) (h : k < 0) : ¬ ∃ j, j < m ∧ k = nI j := by
  rintro ⟨j, hj, rfl⟩
  exact nI_pos (by omega) h
set_option maxRecDepth 20000 in
theorem k_line {σ : z_Sto} {n e h : Nat} {k g : Int32} {T O : Nat → List Nat} (H : x_inv σ n e h T O) : z_R layX iX6_line 0 [some (.ref 0), some (.int k), some (.int g), none] [] σ (fun r σ' => (¬ x_lok k g ∧ r = some (.int (-2)) ∧ σ' = σ) ∨ (x_lok k g ∧ n = 12 ∧ r = some (.int (-4)) ∧ σ' = σ) ∨ (x_lok k g ∧ n < 12 ∧ r = some (.int (nI n)) ∧ x_inv σ' (n + 1) e h T O ∧ x_pubL σ' σ)) := by
  refine z_iload_n (pc := 0) dX6_line_0 rfl ?_
  refine z_if_lt (pc := 1) (tgt := 9) dX6_line_1 (by decide) (fun h1 => ?_) (fun h1 => ?_)
  · refine z_bipush (pc := 9) (v := (-2)) dX6_line_9 (by decide) ?_
    exact z_ireturn (pc := 11) dX6_line_11 rfl rfl (Or.inl ⟨fun q => by first | exact x_no0 (by decide) h1 q.1 | exact x_no3 h6 q.1, rfl, rfl⟩)
  · refine z_iload_n (pc := 4) dX6_line_4 rfl ?_
    refine z_iconst (pc := 5) (v := (nI 2)) dX6_line_5 (by decide) ?_
    refine z_icmp_le (pc := 6) (tgt := 12) dX6_line_6 (by decide) (fun h6 => ?_) (fun h6 => ?_)
    · refine z_iload_n (pc := 12) dX6_line_12 rfl ?_
      refine z_iconst (pc := 13) (v := (nI 1)) dX6_line_13 (by decide) ?_
      refine z_icmp_ne (pc := 14) (tgt := 29) dX6_line_14 (by decide) (fun h14 => ?_) (fun h14 => ?_)
      · exact k_line29 H ⟨x_in3 h1 h6, fun e => by first | exact absurd e h14 | exact z_ix (n := 4) (by decide) h18 (z_nle h23)⟩
      · refine z_iload_n (pc := 17) dX6_line_17 rfl ?_
        refine z_if_lt (pc := 18) (tgt := 26) dX6_line_18 (by decide) (fun h18 => ?_) (fun h18 => ?_)
        · refine z_bipush (pc := 26) (v := (-2)) dX6_line_26 (by decide) ?_
          exact z_ireturn (pc := 28) dX6_line_28 rfl rfl (Or.inl ⟨fun q => by first | exact x_no0 (by decide) h18 (q.2 h14) | (obtain ⟨j, hj, e⟩ := q.2 h14; rw [e] at h23; exact h23 (nI_lt (by omega) (by decide))), rfl, rfl⟩)
        · refine z_iload_n (pc := 21) dX6_line_21 rfl ?_
          refine z_iconst (pc := 22) (v := (nI 4)) dX6_line_22 (by decide) ?_
          refine z_icmp_lt (pc := 23) (tgt := 29) dX6_line_23 (by decide) (fun h23 => ?_) (fun h23 => ?_)
          · exact k_line29 H ⟨x_in3 h1 h6, fun e => by first | exact absurd e h14 | exact z_ix (n := 4) (by decide) h18 (z_nle h23)⟩
          · refine z_bipush (pc := 26) (v := (-2)) dX6_line_26 (by decide) ?_
            exact z_ireturn (pc := 28) dX6_line_28 rfl rfl (Or.inl ⟨fun q => by first | exact x_no0 (by decide) h18 (q.2 h14) | (obtain ⟨j, hj, e⟩ := q.2 h14; rw [e] at h23; exact h23 (nI_lt (by omega) (by decide))), rfl, rfl⟩)
    · refine z_bipush (pc := 9) (v := (-2)) dX6_line_9 (by decide) ?_
      exact z_ireturn (pc := 11) dX6_line_11 rfl rfl (Or.inl ⟨fun q => by first | exact x_no0 (by decide) h1 q.1 | exact x_no3 h6 q.1, rfl, rfl⟩)
theorem x_half_v {v : Int32} (h1 : z_least 3 ≤ v) (h2 : v ≤ z_most 3) : ∃ h, v = nI h ∧ 1 ≤ h ∧ h ≤ 500 := by
  have e1 : z_least 3 = nI 1 := by decide
  have e2 : z_most 3 = nI 500 := by decide
  rw [e1] at h1
  rw [e2] at h2
  obtain ⟨j, hj, rfl⟩ := z_ix (n := 501) (by decide) (fun g => by have := Int32.lt_of_le_of_lt h1 g; exact absurd this (by decide)) (fun g => by have := Int32.le_trans g h2; exact absurd this (by decide))
  exact ⟨j, rfl, (nI_leI (by decide) (by omega)).mp h1, by omega⟩
def x_rul (k : Nat) (v : Int32) (σ : z_Sto) : z_Sto := z_up (x_rp 11 2 (σ 0 6) 16 0 σ) 2 k v
theorem x_rul_fr {k c : Nat} {v : Int32} {σ : z_Sto} (h : c ≠ 2 ∧ c ≠ 12 ∧ c ≠ 13) : x_rul k v σ c = σ c := by
  rw [x_rul, z_up_ne _ _ _ h.1, x_rp_fr (by omega)]
theorem x_rul_2 {k : Nat} {v : Int32} {σ : z_Sto} : x_rul k v σ 2 = upd (σ 2) k v := by
  rw [x_rul, z_up_same, x_rp_fr (by decide)]
theorem x_rul_inv {σ : z_Sto} {n e h k : Nat} {v : Int32} {T O : Nat → List Nat} (H : x_inv σ n e h T O) (hk : k < 8) (ha : x_adm σ (nI k) v) : ∃ h', x_inv (x_rul k v σ) n e h' T O := by
  have hh : ∃ h', x_rul k v σ 2 3 = nI h' ∧ 1 ≤ h' ∧ h' ≤ 500 := by
    rw [x_rul_2]
    by_cases q : k = 3
    · subst q
      rw [z_upd_s]
      have := (x_adm_iff hk).mp ha
      exact x_half_v this.1 this.2.1
    · rw [z_upd_n (Ne.symm q)]
      exact ⟨h, H.1.2.2.2.2.2.1, H.1.2.2.2.2.2.2⟩
  obtain ⟨h', g1, g2, g3⟩ := hh
  obtain ⟨⟨b1, b2, b3, b4, b5, b6, b7⟩, a2, a3, a4, a5, a6, a7⟩ := H
  refine ⟨h', ⟨by rw [x_rul_fr (by decide)]; exact b1, b2, by rw [x_rul_fr (by decide)]; exact b3, b4, x_log_fr b5 (x_rul_fr (by decide)) (x_rul_fr (by decide)) (x_rul_fr (by decide)), g1, g2, g3⟩, ?_, ?_, ?_, ⟨a5.1, ?_⟩, ?_, ?_⟩
  · intro i hi; rw [x_rul_fr (by decide)]; exact a2 i hi
  · exact ⟨fun j => by rw [x_rul_fr (by decide)]; exact a3.1 j, fun j => by rw [x_rul_fr (by decide)]; exact a3.2 j⟩
  · intro k hk; rw [x_rul_fr (by decide)]; exact a4 k hk
  · intro k hk; rw [x_rul_fr (by decide)]; exact a5.2 k hk
  · intro k hk; rw [x_rul_fr (by decide)]; exact a6 k hk
  · intro k hk; rw [x_rul_fr (by decide)]; exact a7 k hk
set_option maxRecDepth 20000 in
theorem k_rule {σ : z_Sto} {n e h : Nat} {w v : Int32} {T O : Nat → List Nat} (H : x_inv σ n e h T O) : z_R layX iX6_rule 0 [some (.ref 0), some (.int w), some (.int v), none] [] σ (fun r σ' => (¬ x_adm σ w v ∧ r = some (.int (-2)) ∧ σ' = σ) ∨ (∃ k, k < 8 ∧ w = nI k ∧ x_adm σ w v ∧ r = some (.int (σ 2 k)) ∧ σ' = x_rul k v σ)) := by
  refine z_aload_n (pc := 0) dX6_rule_0 rfl ?_
  refine z_getA (pc := 1) f_X6_10 dX6_rule_1 (by decide) rfl rfl ?_
  refine z_iload_n (pc := 4) dX6_rule_4 rfl ?_
  refine z_iload_n (pc := 5) dX6_rule_5 rfl ?_
  refine z_cV2 (pc := 6) mX5_admits l_X6_71 (by decide) dX6_rule_6 (by decide) rfl rfl (by decide) (Nat.le_of_ble_eq_true rfl) (c_admits) rfl (fun r6 σ6 hr6 => ?_)
  obtain ⟨v6, rfl, g6, g7, rfl⟩ := hr6
  refine z_if_ne (pc := 9) (tgt := 15) dX6_rule_9 (by decide) (fun h9 => ?_) (fun h9 => ?_)
  · have ha := g6 h9
    obtain ⟨k, hk, rfl, hk2⟩ := id ha
    refine z_aload_n (pc := 15) dX6_rule_15 rfl ?_
    refine z_getA (pc := 16) f_X6_10 dX6_rule_16 (by decide) rfl rfl ?_
    refine z_iload_n (pc := 19) dX6_rule_19 rfl ?_
    refine z_cV1 (pc := 20) mX5_get l_X6_75 (by decide) dX6_rule_20 (by decide) rfl rfl (by decide) (Nat.le_of_ble_eq_true rfl) (c_X5_get hk) rfl (fun r20 σ20 hr20 => ?_)
    obtain ⟨rfl, rfl⟩ := hr20
    refine z_istore_n (pc := 23) dX6_rule_23 (by decide) rfl rfl ?_
    refine z_aload_n (pc := 24) dX6_rule_24 rfl ?_
    refine z_getA (pc := 25) f_X6_35 dX6_rule_25 (by decide) rfl rfl ?_
    refine z_aload_n (pc := 28) dX6_rule_28 rfl ?_
    refine z_getI (pc := 29) f_X6_55 dX6_rule_29 (by decide) rfl rfl ?_
    refine z_cV1 (pc := 32) mX0_restPenalties l_X6_79 (by decide) dX6_rule_32 (by decide) rfl rfl (by decide) (Nat.le_of_ble_eq_true rfl) (c_X0_restPenalties H.1.2.2.2.2.2.1 H.1.2.2.2.2.2.2.1 H.1.2.2.2.2.2.2.2) rfl (fun r32 σ32 hr32 => ?_)
    obtain ⟨er32, eσ32⟩ := hr32
    subst er32
    refine z_aload_n (pc := 35) dX6_rule_35 rfl ?_
    refine z_getA (pc := 36) f_X6_10 dX6_rule_36 (by decide) rfl rfl ?_
    refine z_iload_n (pc := 39) dX6_rule_39 rfl ?_
    refine z_iload_n (pc := 40) dX6_rule_40 rfl ?_
    refine z_cV2 (pc := 41) mX5_put l_X6_82 (by decide) dX6_rule_41 (by decide) rfl rfl (by decide) (Nat.le_of_ble_eq_true rfl) (c_X5_put hk) rfl (fun r41 σ41 hr41 => ?_)
    obtain ⟨er41, eσ41⟩ := hr41
    subst er41
    refine z_iload_n (pc := 44) dX6_rule_44 rfl ?_
    exact z_ireturn (pc := 45) dX6_rule_45 rfl rfl (Or.inr ⟨k, hk, rfl, ha, rfl, by rw [eσ41, eσ32]; rfl⟩)
  · refine z_bipush (pc := 12) (v := (-2)) dX6_rule_12 (by decide) ?_
    exact z_ireturn (pc := 14) dX6_rule_14 rfl rfl (Or.inl ⟨g7 h9, rfl, rfl⟩)
def x_tik (n : Nat) (m : Int32) (σ : z_Sto) : z_Sto := x_sa 11 2 n (σ 0 6 + m) 16 0 (z_up σ 0 6 (σ 0 6 + m))
theorem x_tik_fr {n c : Nat} {m : Int32} {σ : z_Sto} (h : (c < 11 ∨ 20 < c) ∧ c ≠ 0) : x_tik n m σ c = σ c := by
  rw [x_tik, x_sa_fr (by omega), z_up_ne _ _ _ h.2]
theorem x_tik_0 {n : Nat} {m : Int32} {σ : z_Sto} : x_tik n m σ 0 6 = σ 0 6 + m := by
  rw [x_tik, x_sa_fr (by decide), z_up_same, z_upd_s]
theorem x_tik_inv {σ : z_Sto} {n e h : Nat} {m : Int32} {T O : Nat → List Nat} (H : x_inv σ n e h T O) : x_inv (x_tik n m σ) n e h T O :=
  x_inv_fr H (x_sa_brd _ _ _ (x_up_brd H.2.2.1 (fun q => by omega))) (fun c hc => x_tik_fr (by omega))
set_option maxRecDepth 20000 in
theorem k_tick {σ : z_Sto} {n e h : Nat} {m : Int32} {T O : Nat → List Nat} (H : x_inv σ n e h T O) : z_R layX iX6_tick 0 [some (.ref 0), some (.int m)] [] σ (fun r σ' => ((m < nI 1 ∨ nI 200 < m) ∧ r = some (.int (-2)) ∧ σ' = σ) ∨ (¬ (m < nI 1 ∨ nI 200 < m) ∧ nI 2000 < σ 0 6 + m ∧ r = some (.int (-4)) ∧ σ' = σ) ∨ (¬ (m < nI 1 ∨ nI 200 < m) ∧ ¬ nI 2000 < σ 0 6 + m ∧ r = some (.int (σ 0 6 + m)) ∧ σ' = x_tik n m σ)) := by
  refine z_iload_n (pc := 0) dX6_tick_0 rfl ?_
  refine z_iconst (pc := 1) (v := (nI 1)) dX6_tick_1 (by decide) ?_
  refine z_icmp_lt (pc := 2) (tgt := 12) dX6_tick_2 (by decide) (fun h2 => ?_) (fun h2 => ?_)
  · refine z_bipush (pc := 12) (v := (-2)) dX6_tick_12 (by decide) ?_
    exact z_ireturn (pc := 14) dX6_tick_14 rfl rfl (Or.inl ⟨by first | exact Or.inl h2 | exact Or.inr (by rw [← Int32.not_le]; exact h9), rfl, rfl⟩)
  · refine z_iload_n (pc := 5) dX6_tick_5 rfl ?_
    refine z_sipush (pc := 6) (v := (nI 200)) dX6_tick_6 (by decide) ?_
    refine z_icmp_le (pc := 9) (tgt := 15) dX6_tick_9 (by decide) (fun h9 => ?_) (fun h9 => ?_)
    · have q9 : ¬ (m < nI 1 ∨ nI 200 < m) := fun g => g.elim h2 (fun g => z_nle g h9)
      refine z_aload_n (pc := 15) dX6_tick_15 rfl ?_
      refine z_getI (pc := 16) f_X6_55 dX6_tick_16 (by decide) rfl rfl ?_
      refine z_iload_n (pc := 19) dX6_tick_19 rfl ?_
      refine z_iadd (pc := 20) dX6_tick_20 ?_
      refine z_sipush (pc := 21) (v := (nI 2000)) dX6_tick_21 (by decide) ?_
      refine z_icmp_le (pc := 24) (tgt := 30) dX6_tick_24 (by decide) (fun h24 => ?_) (fun h24 => ?_)
      · refine z_aload_n (pc := 30) dX6_tick_30 rfl ?_
        refine z_dup_a (pc := 31) dX6_tick_31 ?_
        refine z_getI (pc := 32) f_X6_55 dX6_tick_32 (by decide) rfl rfl ?_
        refine z_iload_n (pc := 35) dX6_tick_35 rfl ?_
        refine z_iadd (pc := 36) dX6_tick_36 ?_
        refine z_putI (pc := 37) f_X6_55 tyX6_ok nmX6 (by decide) rfl rfl rfl dX6_tick_37 (by decide) rfl rfl ?_
        refine z_aload_n (pc := 40) dX6_tick_40 rfl ?_
        refine z_getA (pc := 41) f_X6_35 dX6_tick_41 (by decide) rfl rfl ?_
        refine z_aload_n (pc := 44) dX6_tick_44 rfl ?_
        refine z_getI (pc := 45) f_X6_55 dX6_tick_45 (by decide) rfl rfl ?_
        rw [show z_up σ 0 6 (σ 0 6 + m) 0 6 = σ 0 6 + m by rw [z_up_same, z_upd_s]]
        refine z_cV1 (pc := 48) mX0_settleAll l_X6_114 (by decide) dX6_tick_48 (by decide) rfl rfl (by decide) (Nat.le_of_ble_eq_true rfl) (c_X0_settleAll (n := n) (by rw [z_up_ne _ _ _ (by decide)]; exact H.1.1) H.1.2.1) rfl (fun r48 σ48 hr48 => ?_)
        obtain ⟨er48, eσ48⟩ := hr48
        subst er48
        refine z_aload_n (pc := 51) dX6_tick_51 rfl ?_
        refine z_getI (pc := 52) f_X6_55 dX6_tick_52 (by decide) rfl rfl ?_
        rw [show σ48 0 6 = σ 0 6 + m by rw [eσ48]; exact x_tik_0]
        exact z_ireturn (pc := 55) dX6_tick_55 rfl rfl (Or.inr (Or.inr ⟨q9, fun g => z_nle g h24, rfl, eσ48⟩))
      · refine z_bipush (pc := 27) (v := (-4)) dX6_tick_27 (by decide) ?_
        exact z_ireturn (pc := 29) dX6_tick_29 rfl rfl (Or.inr (Or.inl ⟨q9, by rw [← Int32.not_le]; exact h24, rfl, rfl⟩))
    · refine z_bipush (pc := 12) (v := (-2)) dX6_tick_12 (by decide) ?_
      exact z_ireturn (pc := 14) dX6_tick_14 rfl rfl (Or.inl ⟨by first | exact Or.inl h2 | exact Or.inr (by rw [← Int32.not_le]; exact h9), rfl, rfl⟩)
set_option maxRecDepth 20000 in
theorem k_mark {σ : z_Sto} {n e h : Nat} {x m : Int32} {T O : Nat → List Nat} (H : x_inv σ n e h T O) : z_R layX iX6_mark 0 [some (.ref 0), some (.int x), some (.int m)] [] σ (fun r σ' => (¬ ((∃ i, i < n ∧ x = nI i) ∧ (∃ j, j < 3 ∧ m = nI j)) ∧ r = some (.int (-2)) ∧ σ' = σ) ∨ (∃ i j, i < n ∧ j < 3 ∧ x = nI i ∧ m = nI j ∧ r = some (.int (σ 6 i)) ∧ σ' = z_up σ 6 i (nI j))) := by
  have h12 := H.1.2.1
  refine z_aload_n (pc := 0) dX6_mark_0 rfl ?_
  refine z_getA (pc := 1) f_X6_19 dX6_mark_1 (by decide) rfl rfl ?_
  refine z_iload_n (pc := 4) dX6_mark_4 rfl ?_
  refine z_cV1 (pc := 5) mX4_has l_X6_90 (by decide) dX6_mark_5 (by decide) rfl rfl (by decide) (Nat.le_of_ble_eq_true rfl) (c_has H.1.1 H.1.2.1) rfl (fun r5 σ5 hr5 => ?_)
  obtain ⟨v5, rfl, g5, g6, rfl⟩ := hr5
  refine z_if_eq (pc := 8) (tgt := 20) dX6_mark_8 (by decide) (fun h8 => ?_) (fun h8 => ?_)
  · refine z_bipush (pc := 20) (v := (-2)) dX6_mark_20 (by decide) ?_
    exact z_ireturn (pc := 22) dX6_mark_22 rfl rfl (Or.inl ⟨fun q => by first | (obtain ⟨⟨i, hi, e⟩, -⟩ := q; exact g6 h8 i hi e) | exact x_no0 (by decide) h12 q.2 | exact x_no3 h17 q.2, rfl, rfl⟩)
  · obtain ⟨i, hi, rfl⟩ := g5 h8
    refine z_iload_n (pc := 11) dX6_mark_11 rfl ?_
    refine z_if_lt (pc := 12) (tgt := 20) dX6_mark_12 (by decide) (fun h12 => ?_) (fun h12 => ?_)
    · refine z_bipush (pc := 20) (v := (-2)) dX6_mark_20 (by decide) ?_
      exact z_ireturn (pc := 22) dX6_mark_22 rfl rfl (Or.inl ⟨fun q => by first | (obtain ⟨⟨i, hi, e⟩, -⟩ := q; exact g6 h8 i hi e) | exact x_no0 (by decide) h12 q.2 | exact x_no3 h17 q.2, rfl, rfl⟩)
    · refine z_iload_n (pc := 15) dX6_mark_15 rfl ?_
      refine z_iconst (pc := 16) (v := (nI 2)) dX6_mark_16 (by decide) ?_
      refine z_icmp_le (pc := 17) (tgt := 23) dX6_mark_17 (by decide) (fun h17 => ?_) (fun h17 => ?_)
      · obtain ⟨j, hj, rfl⟩ := x_in3 h12 h17
        refine z_aload_n (pc := 23) dX6_mark_23 rfl ?_
        refine z_getA (pc := 24) f_X6_19 dX6_mark_24 (by decide) rfl rfl ?_
        refine z_iload_n (pc := 27) dX6_mark_27 rfl ?_
        refine z_iload_n (pc := 28) dX6_mark_28 rfl ?_
        refine z_cV2 (pc := 29) mX4_putMark l_X6_166 (by decide) dX6_mark_29 (by decide) rfl rfl (by decide) (Nat.le_of_ble_eq_true rfl) (c_X4_putMark (by omega)) rfl (fun r29 σ29 hr29 => ?_)
        obtain ⟨rfl, rfl⟩ := hr29
        exact z_ireturn (pc := 32) dX6_mark_32 rfl rfl (Or.inr ⟨i, j, hi, hj, rfl, rfl, rfl, rfl⟩)
      · refine z_bipush (pc := 20) (v := (-2)) dX6_mark_20 (by decide) ?_
        exact z_ireturn (pc := 22) dX6_mark_22 rfl rfl (Or.inl ⟨fun q => by first | (obtain ⟨⟨i, hi, e⟩, -⟩ := q; exact g6 h8 i hi e) | exact x_no0 (by decide) h12 q.2 | exact x_no3 h17 q.2, rfl, rfl⟩)
theorem x_mark_inv {σ : z_Sto} {n e h i : Nat} {v : Int32} {T O : Nat → List Nat} (H : x_inv σ n e h T O) : x_inv (z_up σ 6 i v) n e h T O :=
  x_inv_fr H (x_up_brd H.2.2.1 (fun q => by omega)) (fun c hc => z_up_ne _ _ _ (by omega))
