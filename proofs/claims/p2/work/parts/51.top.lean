/-! CalmLines: its methods, first half -/
theorem z_sw (x : Int32) (m : Nat) (hm : m < 2 ^ 31) : (∃ k, k < m ∧ x = nI k) ∨ (x.toInt < 0 ∨ (m : Int) - 1 < x.toInt) := by
  rcases pk_ix x hm with h | h | h
  · right; left
    rw [Int32.lt_iff_toInt_lt] at h
    exact h
  · right; right
    rw [Int32.le_iff_toInt_le, nI_toInt hm] at h
    omega
  · exact Or.inl h
theorem c_has {σ : z_Sto} {x : Int32} {n : Nat} (hn : σ 3 3 = nI n) (h12 : n ≤ 12) : z_R layX iX4_has 0 [some (.ref 3), some (.int x)] [] σ (fun r σ' => ∃ v, r = some (.int v) ∧ (¬ v = 0 → ∃ k, k < n ∧ x = nI k) ∧ (v = 0 → ∀ k, k < n → x ≠ nI k) ∧ σ' = σ) :=
  (c_X4_has hn h12).mono (fun r σ' h => by
    obtain ⟨⟨k, hk, e, rfl⟩ | ⟨g, rfl⟩, e2⟩ := h
    · exact ⟨_, rfl, fun _ => ⟨k, hk, e⟩, fun q => absurd q (by decide), e2⟩
    · exact ⟨_, rfl, fun q => absurd rfl q, fun _ => g, e2⟩)
theorem c_isHouse {σ : z_Sto} {x : Int32} : z_R layX iX2_isHouse 0 [some (.int x)] [] σ (fun r σ' => ∃ v, r = some (.int v) ∧ (¬ v = 0 → ∃ k, k < 5 ∧ x = nI k) ∧ (v = 0 → ∀ k, k < 5 → x ≠ nI k) ∧ σ' = σ) :=
  c_X2_isHouse.mono (fun r σ' h => by
    obtain ⟨⟨k, hk, e, rfl⟩ | ⟨g, rfl⟩, e2⟩ := h
    · exact ⟨_, rfl, fun _ => ⟨k, hk, e⟩, fun q => absurd q (by decide), e2⟩
    · exact ⟨_, rfl, fun q => absurd rfl q, fun _ => g, e2⟩)
theorem c_admits {σ : z_Sto} {w v : Int32} : z_R layX iX5_admits 0 [some (.ref 1), some (.int w), some (.int v)] [] σ (fun r σ' => ∃ u, r = some (.int u) ∧ (¬ u = 0 → x_adm σ w v) ∧ (u = 0 → ¬ x_adm σ w v) ∧ σ' = σ) :=
  c_X5_admits.mono (fun r σ' h => by
    obtain ⟨⟨rfl, g⟩ | ⟨rfl, g⟩, e2⟩ := h
    · exact ⟨_, rfl, fun _ => g, fun q => absurd q (by decide), e2⟩
    · exact ⟨_, rfl, fun q => absurd rfl q, fun _ => g, e2⟩)
theorem c_areMarks {σ : z_Sto} {s o : Int32} : z_R layX iX5_areMarks 0 [some (.int s), some (.int o)] [] σ (fun r σ' => ∃ u, r = some (.int u) ∧ (¬ u = 0 → x_arm s o) ∧ (u = 0 → ¬ x_arm s o) ∧ σ' = σ) :=
  c_X5_areMarks.mono (fun r σ' h => by
    obtain ⟨⟨rfl, g⟩ | ⟨rfl, g⟩, e2⟩ := h
    · exact ⟨_, rfl, fun _ => g, fun q => absurd q (by decide), e2⟩
    · exact ⟨_, rfl, fun q => absurd rfl q, fun _ => g, e2⟩)
set_option maxRecDepth 20000 in
theorem c_X6_happen {σ : z_Sto} {n e h i w s : Nat} {T O : Nat → List Nat} (H : x_inv σ n e h T O) (hi : i < n) (hw : w < 3) (hs : s < 16) (hsl : σ 5 i = nI s) : z_R layX iX6_happen 0 [some (.ref 0), some (.int (nI i)), some (.int (nI w))] [] σ (fun r σ' => (e < 300 ∧ r = some (.int (nI 1)) ∧ σ' = x_hap n e s i w σ) ∨ (e = 300 ∧ r = some (.int (nI 0)) ∧ σ' = σ)) := by
  have h12 := H.1.2.1
  have h3 := H.1.2.2.2.1
  refine z_aload_n (pc := 0) dX6_happen_0 rfl ?_
  refine z_getA (pc := 1) f_X6_26 dX6_happen_1 (by decide) rfl rfl ?_
  refine z_cV0 (pc := 4) mX1_isFull l_X6_106 (by decide) dX6_happen_4 (by decide) rfl rfl (by decide) (Nat.le_of_ble_eq_true rfl) (c_X1_isFull H.1.2.2.1 H.1.2.2.2.1) rfl (fun r4 σ4 hr4 => ?_)
  obtain ⟨rfl, rfl⟩ := hr4
  refine z_if_eq (pc := 7) (tgt := 12) dX6_happen_7 (by decide) (fun h7 => ?_) (fun h7 => ?_)
  · have q7 : e < 300 := by (by_cases g : e < 300; exact g; exact absurd h7 (by rw [if_neg g]; decide))
    refine z_aload_n (pc := 12) dX6_happen_12 rfl ?_
    refine z_getA (pc := 13) f_X6_26 dX6_happen_13 (by decide) rfl rfl ?_
    refine z_iload_n (pc := 16) dX6_happen_16 rfl ?_
    refine z_iload_n (pc := 17) dX6_happen_17 rfl ?_
    refine z_aload_n (pc := 18) dX6_happen_18 rfl ?_
    refine z_getI (pc := 19) f_X6_55 dX6_happen_19 (by decide) rfl rfl ?_
    refine z_cV3 (pc := 22) mX1_write l_X6_107 (by decide) dX6_happen_22 (by decide) rfl rfl (by decide) (Nat.le_of_ble_eq_true rfl) (c_X1_write H.1.2.2.1 q7) rfl (fun r22 σ22 hr22 => ?_)
    obtain ⟨rfl, rfl⟩ := hr22
    refine z_aload_n (pc := 25) dX6_happen_25 rfl ?_
    refine z_getA (pc := 26) f_X6_35 dX6_happen_26 (by decide) rfl rfl ?_
    refine z_iload_n (pc := 29) dX6_happen_29 rfl ?_
    refine z_iload_n (pc := 30) dX6_happen_30 rfl ?_
    refine z_aload_n (pc := 31) dX6_happen_31 rfl ?_
    have H1 := x_wr_inv (t := σ4 0 6) H hi hw q7 hs hsl
    refine z_getI (pc := 32) f_X6_55 dX6_happen_32 (by decide) rfl rfl ?_
    refine z_cV3 (pc := 35) mX0_take l_X6_111 (by decide) dX6_happen_35 (by decide) rfl rfl (by decide) (Nat.le_of_ble_eq_true rfl) (c_X0_take (σ := x_wr e i w (σ4 0 6) σ4) (by omega) (by rw [x_wr_fr (by decide)]; exact hsl) hs H1.1.1 h12 hw H1.1.2.2.2.2.2.1 H1.1.2.2.2.2.2.2.1 H1.1.2.2.2.2.2.2.2) rfl (fun r35 σ35 hr35 => ?_)
    obtain ⟨er35, eσ35⟩ := hr35
    subst er35
    refine z_iconst (pc := 38) (v := (nI 1)) dX6_happen_38 (by decide) ?_
    exact z_ireturn (pc := 39) dX6_happen_39 rfl (by decide) (Or.inl ⟨q7, rfl, eσ35⟩)
  · have q7 : e = 300 := by (by_cases g : e < 300; exact absurd (by rw [if_pos g]; rfl) h7; omega)
    refine z_iconst (pc := 10) (v := (nI 0)) dX6_happen_10 (by decide) ?_
    exact z_ireturn (pc := 11) dX6_happen_11 rfl (by decide) (Or.inr ⟨q7, rfl, rfl⟩)
set_option maxRecDepth 20000 in
theorem c_X6_penaltyAfter {σ : z_Sto} {n e h i w s : Nat} {T O : Nat → List Nat} (H : x_inv σ n e h T O) (hi : i < n) (hw : w < 3) (hs : s < 16) (hsl : σ 5 i = nI s) : z_R layX iX6_penaltyAfter 0 [some (.ref 0), some (.int (nI i)), some (.int (nI w))] [] σ (fun r σ' => (e < 300 ∧ r = some (.int (x_pen 11 2 s (σ 0 6) (x_hap n e s i w σ))) ∧ σ' = x_hap n e s i w σ) ∨ (e = 300 ∧ r = some (.int (-4)) ∧ σ' = σ)) := by
  have h12 := H.1.2.1
  refine z_aload_n (pc := 0) dX6_penaltyAfter_0 rfl ?_
  refine z_iload_n (pc := 1) dX6_penaltyAfter_1 rfl ?_
  refine z_iload_n (pc := 2) dX6_penaltyAfter_2 rfl ?_
  refine z_cV2 (pc := 3) mX6_happen l_X6_100 (by decide) dX6_penaltyAfter_3 (by decide) rfl rfl (by decide) (Nat.le_of_ble_eq_true rfl) ((c_X6_happen H hi hw hs hsl).mono (Ψ := fun r σ' => ∃ v, r = some (.int v) ∧ (¬ v = 0 → e < 300 ∧ σ' = x_hap n e s i w σ) ∧ (v = 0 → e = 300 ∧ σ' = σ)) (fun r σ' g => g.elim (fun g => ⟨_, g.2.1, fun _ => ⟨g.1, g.2.2⟩, fun q => absurd q (by decide)⟩) (fun g => ⟨_, g.2.1, fun q => absurd rfl q, fun _ => ⟨g.1, g.2.2⟩⟩))) rfl (fun r3 σ3 hr3 => ?_)
  obtain ⟨v3, rfl, g3, g4⟩ := hr3
  refine z_if_eq (pc := 6) (tgt := 24) dX6_penaltyAfter_6 (by decide) (fun h6 => ?_) (fun h6 => ?_)
  · obtain ⟨q1, q2⟩ := g4 h6
    refine z_bipush (pc := 24) (v := (-4)) dX6_penaltyAfter_24 (by decide) ?_
    exact z_ireturn (pc := 26) dX6_penaltyAfter_26 rfl rfl (by first | exact Or.inr ⟨q1, rfl, q2⟩ | exact Or.inl ⟨q1, by rw [← q2], q2⟩)
  · obtain ⟨q1, q2⟩ := g3 h6
    have H1 := (x_hap_inv H hi hw q1 hs hsl).1
    rw [← q2] at H1
    have e06 : σ3 0 6 = σ 0 6 := by rw [q2, x_hap_fr (by decide)]
    refine z_aload_n (pc := 9) dX6_penaltyAfter_9 rfl ?_
    refine z_getA (pc := 10) f_X6_35 dX6_penaltyAfter_10 (by decide) rfl rfl ?_
    refine z_iload_n (pc := 13) dX6_penaltyAfter_13 rfl ?_
    refine z_aload_n (pc := 14) dX6_penaltyAfter_14 rfl ?_
    refine z_getI (pc := 15) f_X6_55 dX6_penaltyAfter_15 (by decide) rfl rfl ?_
    rw [e06]
    refine z_cV2 (pc := 18) mX0_penaltyOf l_X6_103 (by decide) dX6_penaltyAfter_18 (by decide) rfl rfl (by decide) (Nat.le_of_ble_eq_true rfl) (c_X0_penaltyOf (by omega) (by rw [q2, x_hap_fr (by decide)]; exact hsl) hs H1.1.2.2.2.2.2.1 H1.1.2.2.2.2.2.2.1 H1.1.2.2.2.2.2.2.2) rfl (fun r18 σ18 hr18 => ?_)
    obtain ⟨rfl, rfl⟩ := hr18
    refine z_goto (pc := 21) (tgt := 26) dX6_penaltyAfter_21 (by decide) ?_
    exact z_ireturn (pc := 26) dX6_penaltyAfter_26 rfl rfl (by first | exact Or.inr ⟨q1, rfl, q2⟩ | exact Or.inl ⟨q1, by rw [← q2], q2⟩)
def x_some (r : Option Value) : Prop := ∃ v : Int32, r = some (.int v)
def x_keepP (σ : z_Sto) (n h : Nat) (r : Option Value) (σ' : z_Sto) : Prop := x_some r ∧ (∃ e T O, x_inv σ' n e h T O) ∧ x_pub σ' σ
theorem x_pen_keep {σ : z_Sto} {n e h i w s : Nat} {T O : Nat → List Nat} (H : x_inv σ n e h T O) (hi : i < n) (hw : w < 3) (hs : s < 16) (hsl : σ 5 i = nI s) : z_R layX iX6_penaltyAfter 0 [some (.ref 0), some (.int (nI i)), some (.int (nI w))] [] σ (x_keepP σ n h) :=
  (c_X6_penaltyAfter H hi hw hs hsl).mono (fun r σ' g => by
    rcases g with ⟨g1, rfl, rfl⟩ | ⟨g1, rfl, rfl⟩
    · have := x_hap_inv H hi hw g1 hs hsl
      exact ⟨⟨_, rfl⟩, ⟨_, _, _, this.1⟩, this.2⟩
    · exact ⟨⟨_, rfl⟩, ⟨_, _, _, H⟩, x_pub_rf⟩)
set_option maxRecDepth 20000 in
theorem k_echo {σ : z_Sto} {n e h : Nat} {x : Int32} {T O : Nat → List Nat} (H : x_inv σ n e h T O) : z_R layX iX6_echo 0 [some (.ref 0), some (.int x)] [] σ (x_keepP σ n h) := by
  refine z_aload_n (pc := 0) dX6_echo_0 rfl ?_
  refine z_getA (pc := 1) f_X6_19 dX6_echo_1 (by decide) rfl rfl ?_
  refine z_iload_n (pc := 4) dX6_echo_4 rfl ?_
  refine z_cV1 (pc := 5) mX4_has l_X6_90 (by decide) dX6_echo_5 (by decide) rfl rfl (by decide) (Nat.le_of_ble_eq_true rfl) (c_has H.1.1 H.1.2.1) rfl (fun r5 σ5 hr5 => ?_)
  obtain ⟨v5, rfl, g5, g6, rfl⟩ := hr5
  refine z_if_ne (pc := 8) (tgt := 14) dX6_echo_8 (by decide) (fun h8 => ?_) (fun h8 => ?_)
  · obtain ⟨i, hi, rfl⟩ := g5 h8
    obtain ⟨s, hs, hsl⟩ := H.2.1 i hi
    refine z_aload_n (pc := 14) dX6_echo_14 rfl ?_
    refine z_iload_n (pc := 15) dX6_echo_15 rfl ?_
    refine z_iconst (pc := 16) (v := (nI 2)) dX6_echo_16 (by decide) ?_
    refine z_cV2 (pc := 17) mX6_penaltyAfter l_X6_97 (by decide) dX6_echo_17 (by decide) rfl rfl (by decide) (Nat.le_of_ble_eq_true rfl) (x_pen_keep H hi (by decide) hs hsl) rfl (fun r17 σ17 hr17 => ?_)
    obtain ⟨⟨v17, rfl⟩, g17⟩ := hr17
    exact z_ireturn (pc := 20) dX6_echo_20 rfl rfl (⟨⟨_, rfl⟩, g17⟩)
  · refine z_bipush (pc := 11) (v := (-2)) dX6_echo_11 (by decide) ?_
    exact z_ireturn (pc := 13) dX6_echo_13 rfl rfl (⟨⟨_, rfl⟩, ⟨_, _, _, H⟩, x_pub_rf⟩)
set_option maxRecDepth 20000 in
theorem k_change {σ : z_Sto} {n e h : Nat} {x y : Int32} {T O : Nat → List Nat} (H : x_inv σ n e h T O) : z_R layX iX6_change 0 [some (.ref 0), some (.int x), some (.int y)] [] σ (x_keepP σ n h) := by
  have h12 := H.1.2.1
  refine z_aload_n (pc := 0) dX6_change_0 rfl ?_
  refine z_getA (pc := 1) f_X6_19 dX6_change_1 (by decide) rfl rfl ?_
  refine z_iload_n (pc := 4) dX6_change_4 rfl ?_
  refine z_cV1 (pc := 5) mX4_has l_X6_90 (by decide) dX6_change_5 (by decide) rfl rfl (by decide) (Nat.le_of_ble_eq_true rfl) (c_has H.1.1 H.1.2.1) rfl (fun r5 σ5 hr5 => ?_)
  obtain ⟨v5, rfl, g5, g6, rfl⟩ := hr5
  refine z_if_ne (pc := 8) (tgt := 14) dX6_change_8 (by decide) (fun h8 => ?_) (fun h8 => ?_)
  · obtain ⟨i, hi, rfl⟩ := g5 h8
    obtain ⟨s, hs, hsl⟩ := H.2.1 i hi
    refine z_aload_n (pc := 14) dX6_change_14 rfl ?_
    refine z_getA (pc := 15) f_X6_35 dX6_change_15 (by decide) rfl rfl ?_
    refine z_iload_n (pc := 18) dX6_change_18 rfl ?_
    refine z_cV1 (pc := 19) mX0_isUp l_X6_94 (by decide) dX6_change_19 (by decide) rfl rfl (by decide) (Nat.le_of_ble_eq_true rfl) (c_X0_isUp (by omega) (H.2.2.1.1 i)) rfl (fun r19 σ19 hr19 => ?_)
    obtain ⟨rfl, rfl⟩ := hr19
    refine z_iload_n (pc := 22) dX6_change_22 rfl ?_
    refine z_icmp_ne (pc := 23) (tgt := 29) dX6_change_23 (by decide) (fun h23 => ?_) (fun h23 => ?_)
    · refine z_aload_n (pc := 29) dX6_change_29 rfl ?_
      refine z_iload_n (pc := 30) dX6_change_30 rfl ?_
      refine z_iload_n (pc := 31) dX6_change_31 rfl ?_
      refine z_if_eq (pc := 32) (tgt := 39) dX6_change_32 (by decide) (fun h32 => ?_) (fun h32 => ?_)
      · refine z_iconst (pc := 39) (v := (nI 0)) dX6_change_39 (by decide) ?_
        refine z_cV2 (pc := 40) mX6_penaltyAfter l_X6_97 (by decide) dX6_change_40 (by decide) rfl rfl (by decide) (Nat.le_of_ble_eq_true rfl) (x_pen_keep H hi (by decide) hs hsl) rfl (fun r40 σ40 hr40 => ?_)
        obtain ⟨⟨v40, rfl⟩, g40⟩ := hr40
        exact z_ireturn (pc := 43) dX6_change_43 rfl rfl (⟨⟨_, rfl⟩, g40⟩)
      · refine z_iconst (pc := 35) (v := (nI 1)) dX6_change_35 (by decide) ?_
        refine z_goto (pc := 36) (tgt := 40) dX6_change_36 (by decide) ?_
        refine z_cV2 (pc := 40) mX6_penaltyAfter l_X6_97 (by decide) dX6_change_40 (by decide) rfl rfl (by decide) (Nat.le_of_ble_eq_true rfl) (x_pen_keep H hi (by decide) hs hsl) rfl (fun r40 σ40 hr40 => ?_)
        obtain ⟨⟨v40, rfl⟩, g40⟩ := hr40
        exact z_ireturn (pc := 43) dX6_change_43 rfl rfl (⟨⟨_, rfl⟩, g40⟩)
    · refine z_bipush (pc := 26) (v := (-3)) dX6_change_26 (by decide) ?_
      exact z_ireturn (pc := 28) dX6_change_28 rfl rfl (⟨⟨_, rfl⟩, ⟨_, _, _, H⟩, x_pub_rf⟩)
  · refine z_bipush (pc := 11) (v := (-2)) dX6_change_11 (by decide) ?_
    exact z_ireturn (pc := 13) dX6_change_13 rfl rfl (⟨⟨_, rfl⟩, ⟨_, _, _, H⟩, x_pub_rf⟩)
set_option maxRecDepth 20000 in
theorem k_faded {σ : z_Sto} {n e h : Nat} {x y : Int32} {T O : Nat → List Nat} (H : x_inv σ n e h T O) : z_R layX iX6_faded 0 [some (.ref 0), some (.int x), some (.int y)] [] σ (fun r σ' => x_some r ∧ σ' = σ) := by
  refine z_iload_n (pc := 0) dX6_faded_0 rfl ?_
  refine z_if_lt (pc := 1) (tgt := 20) dX6_faded_1 (by decide) (fun h1 => ?_) (fun h1 => ?_)
  · refine z_bipush (pc := 20) (v := (-2)) dX6_faded_20 (by decide) ?_
    exact z_ireturn (pc := 22) dX6_faded_22 rfl rfl (⟨⟨_, rfl⟩, rfl⟩)
  · refine z_iload_n (pc := 4) dX6_faded_4 rfl ?_
    refine z_ldc (pc := 5) k_X6_86 dX6_faded_5 ?_
    refine z_icmp_gt (pc := 7) (tgt := 20) dX6_faded_7 (by decide) (fun h7 => ?_) (fun h7 => ?_)
    · refine z_bipush (pc := 20) (v := (-2)) dX6_faded_20 (by decide) ?_
      exact z_ireturn (pc := 22) dX6_faded_22 rfl rfl (⟨⟨_, rfl⟩, rfl⟩)
    · refine z_iload_n (pc := 10) dX6_faded_10 rfl ?_
      refine z_if_lt (pc := 11) (tgt := 20) dX6_faded_11 (by decide) (fun h11 => ?_) (fun h11 => ?_)
      · refine z_bipush (pc := 20) (v := (-2)) dX6_faded_20 (by decide) ?_
        exact z_ireturn (pc := 22) dX6_faded_22 rfl rfl (⟨⟨_, rfl⟩, rfl⟩)
      · refine z_iload_n (pc := 14) dX6_faded_14 rfl ?_
        refine z_ldc (pc := 15) k_X6_86 dX6_faded_15 ?_
        refine z_icmp_le (pc := 17) (tgt := 23) dX6_faded_17 (by decide) (fun h17 => ?_) (fun h17 => ?_)
        · refine z_aload_n (pc := 23) dX6_faded_23 rfl ?_
          refine z_getA (pc := 24) f_X6_10 dX6_faded_24 (by decide) rfl rfl ?_
          refine z_iload_n (pc := 27) dX6_faded_27 rfl ?_
          refine z_iload_n (pc := 28) dX6_faded_28 rfl ?_
          refine z_cV2 (pc := 29) mX5_fade l_X6_87 (by decide) dX6_faded_29 (by decide) rfl rfl (by decide) (Nat.le_of_ble_eq_true rfl) (c_X5_fade H.1.2.2.2.2.2.1 H.1.2.2.2.2.2.2.1 H.1.2.2.2.2.2.2.2) rfl (fun r29 σ29 hr29 => ?_)
          obtain ⟨rfl, rfl⟩ := hr29
          exact z_ireturn (pc := 32) dX6_faded_32 rfl rfl (⟨⟨_, rfl⟩, rfl⟩)
        · refine z_bipush (pc := 20) (v := (-2)) dX6_faded_20 (by decide) ?_
          exact z_ireturn (pc := 22) dX6_faded_22 rfl rfl (⟨⟨_, rfl⟩, rfl⟩)
set_option maxRecDepth 20000 in
theorem c_X6_asNumber {σ : z_Sto} {x : Int32} : z_R layX iX6_asNumber 0 [some (.int x)] [] σ (fun r σ' => r = some (.int (if x = 0 then nI 0 else nI 1)) ∧ σ' = σ) := by
  refine z_iload_n (pc := 0) dX6_asNumber_0 rfl ?_
  refine z_if_eq (pc := 1) (tgt := 8) dX6_asNumber_1 (by decide) (fun h1 => ?_) (fun h1 => ?_)
  · refine z_iconst (pc := 8) (v := (nI 0)) dX6_asNumber_8 (by decide) ?_
    exact z_ireturn (pc := 9) dX6_asNumber_9 rfl rfl (⟨by first | rw [if_pos h1] | rw [if_neg h1], rfl⟩)
  · refine z_iconst (pc := 4) (v := (nI 1)) dX6_asNumber_4 (by decide) ?_
    refine z_goto (pc := 5) (tgt := 9) dX6_asNumber_5 (by decide) ?_
    exact z_ireturn (pc := 9) dX6_asNumber_9 rfl rfl (⟨by first | rw [if_pos h1] | rw [if_neg h1], rfl⟩)
set_option maxRecDepth 20000 in
theorem c_X6_longest {σ : z_Sto} : z_R layX iX6_longest 0 [some (.ref 0)] [] σ (fun r σ' => r = some (.int (x_ttb (σ 2 6) (σ 2 5) (σ 2 3))) ∧ σ' = σ) := by
  refine z_aload_n (pc := 0) dX6_longest_0 rfl ?_
  refine z_getA (pc := 1) f_X6_10 dX6_longest_1 (by decide) rfl rfl ?_
  refine z_aload_n (pc := 4) dX6_longest_4 rfl ?_
  refine z_getA (pc := 5) f_X6_10 dX6_longest_5 (by decide) rfl rfl ?_
  refine z_bipush (pc := 8) (v := (nI 6)) dX6_longest_8 (by decide) ?_
  refine z_cV1 (pc := 10) mX5_get l_X6_75 (by decide) dX6_longest_10 (by decide) rfl rfl (by decide) (Nat.le_of_ble_eq_true rfl) (c_X5_get (by decide)) rfl (fun r10 σ10 hr10 => ?_)
  obtain ⟨rfl, rfl⟩ := hr10
  refine z_aload_n (pc := 13) dX6_longest_13 rfl ?_
  refine z_getA (pc := 14) f_X6_10 dX6_longest_14 (by decide) rfl rfl ?_
  refine z_iconst (pc := 17) (v := (nI 5)) dX6_longest_17 (by decide) ?_
  refine z_cV1 (pc := 18) mX5_get l_X6_75 (by decide) dX6_longest_18 (by decide) rfl rfl (by decide) (Nat.le_of_ble_eq_true rfl) (c_X5_get (by decide)) rfl (fun r18 σ18 hr18 => ?_)
  obtain ⟨rfl, rfl⟩ := hr18
  refine z_cV2 (pc := 21) mX5_ticksTillBelow l_X6_142 (by decide) dX6_longest_21 (by decide) rfl rfl (by decide) (Nat.le_of_ble_eq_true rfl) (c_X5_ttb) rfl (fun r21 σ21 hr21 => ?_)
  obtain ⟨rfl, rfl⟩ := hr21
  exact z_ireturn (pc := 24) dX6_longest_24 rfl rfl (⟨rfl, rfl⟩)
set_option maxRecDepth 20000 in
theorem k_about {σ : z_Sto} {n e h : Nat} {x y : Int32} {T O : Nat → List Nat} (H : x_inv σ n e h T O) : z_R layX iX6_about 0 [some (.ref 0), some (.int x), some (.int y)] [] σ (fun r σ' => x_some r ∧ σ' = σ) := by
  have h12 := H.1.2.1
  refine z_aload_n (pc := 0) dX6_about_0 rfl ?_
  refine z_getA (pc := 1) f_X6_19 dX6_about_1 (by decide) rfl rfl ?_
  refine z_iload_n (pc := 4) dX6_about_4 rfl ?_
  refine z_cV1 (pc := 5) mX4_has l_X6_90 (by decide) dX6_about_5 (by decide) rfl rfl (by decide) (Nat.le_of_ble_eq_true rfl) (c_has H.1.1 H.1.2.1) rfl (fun r5 σ5 hr5 => ?_)
  obtain ⟨v5, rfl, g5, g6, rfl⟩ := hr5
  refine z_if_ne (pc := 8) (tgt := 14) dX6_about_8 (by decide) (fun h8 => ?_) (fun h8 => ?_)
  · obtain ⟨i, hi, rfl⟩ := g5 h8
    obtain ⟨s, hs, hsl⟩ := H.2.1 i hi
    have h12' : i < 12 := by omega
    refine z_iload_n (pc := 14) dX6_about_14 rfl ?_
    rcases z_sw y 9 (by decide) with ⟨kk15, hkk15, rfl⟩ | hout15
    · rcases (show kk15 = 0 ∨ kk15 = 1 ∨ kk15 = 2 ∨ kk15 = 3 ∨ kk15 = 4 ∨ kk15 = 5 ∨ kk15 = 6 ∨ kk15 = 7 ∨ kk15 = 8 by omega) with rfl | rfl | rfl | rfl | rfl | rfl | rfl | rfl | rfl
      · refine z_tabIn (pc := 15) (tgt := 64) (off := 49) dX6_about_15 (by decide) (by decide) (by decide) (by decide) ?_
        refine z_aload_n (pc := 64) dX6_about_64 rfl ?_
        refine z_getA (pc := 65) f_X6_35 dX6_about_65 (by decide) rfl rfl ?_
        refine z_iload_n (pc := 68) dX6_about_68 rfl ?_
        refine z_aload_n (pc := 69) dX6_about_69 rfl ?_
        refine z_getI (pc := 70) f_X6_55 dX6_about_70 (by decide) rfl rfl ?_
        refine z_cV2 (pc := 73) mX0_penaltyOf l_X6_103 (by decide) dX6_about_73 (by decide) rfl rfl (by decide) (Nat.le_of_ble_eq_true rfl) (c_X0_penaltyOf h12' hsl hs H.1.2.2.2.2.2.1 H.1.2.2.2.2.2.2.1 H.1.2.2.2.2.2.2.2) rfl (fun r73 σ73 hr73 => ?_)
        obtain ⟨rfl, rfl⟩ := hr73
        exact z_ireturn (pc := 76) dX6_about_76 rfl rfl (⟨⟨_, rfl⟩, rfl⟩)
      · refine z_tabIn (pc := 15) (tgt := 77) (off := 62) dX6_about_15 (by decide) (by decide) (by decide) (by decide) ?_
        refine z_aload_n (pc := 77) dX6_about_77 rfl ?_
        refine z_getA (pc := 78) f_X6_35 dX6_about_78 (by decide) rfl rfl ?_
        refine z_iload_n (pc := 81) dX6_about_81 rfl ?_
        refine z_cV1 (pc := 82) mX0_isUp l_X6_94 (by decide) dX6_about_82 (by decide) rfl rfl (by decide) (Nat.le_of_ble_eq_true rfl) (c_X0_isUp h12' (H.2.2.1.1 i)) rfl (fun r82 σ82 hr82 => ?_)
        obtain ⟨rfl, rfl⟩ := hr82
        refine z_cS1 (pc := 85) mX6_asNumber l_X6_117 (by decide) dX6_about_85 (by decide) (Nat.le_of_ble_eq_true rfl) (c_X6_asNumber) rfl (fun r85 σ85 hr85 => ?_)
        obtain ⟨rfl, rfl⟩ := hr85
        exact z_ireturn (pc := 88) dX6_about_88 rfl rfl (⟨⟨_, rfl⟩, rfl⟩)
      · refine z_tabIn (pc := 15) (tgt := 89) (off := 74) dX6_about_15 (by decide) (by decide) (by decide) (by decide) ?_
        refine z_aload_n (pc := 89) dX6_about_89 rfl ?_
        refine z_getA (pc := 90) f_X6_35 dX6_about_90 (by decide) rfl rfl ?_
        refine z_iload_n (pc := 93) dX6_about_93 rfl ?_
        refine z_cV1 (pc := 94) mX0_isShut l_X6_121 (by decide) dX6_about_94 (by decide) rfl rfl (by decide) (Nat.le_of_ble_eq_true rfl) (c_X0_isShut h12' hsl hs (H.2.2.1.2 s)) rfl (fun r94 σ94 hr94 => ?_)
        obtain ⟨rfl, rfl⟩ := hr94
        refine z_cS1 (pc := 97) mX6_asNumber l_X6_117 (by decide) dX6_about_97 (by decide) (Nat.le_of_ble_eq_true rfl) (c_X6_asNumber) rfl (fun r97 σ97 hr97 => ?_)
        obtain ⟨rfl, rfl⟩ := hr97
        exact z_ireturn (pc := 100) dX6_about_100 rfl rfl (⟨⟨_, rfl⟩, rfl⟩)
      · refine z_tabIn (pc := 15) (tgt := 101) (off := 86) dX6_about_15 (by decide) (by decide) (by decide) (by decide) ?_
        refine z_aload_n (pc := 101) dX6_about_101 rfl ?_
        refine z_getA (pc := 102) f_X6_35 dX6_about_102 (by decide) rfl rfl ?_
        refine z_iload_n (pc := 105) dX6_about_105 rfl ?_
        refine z_cV1 (pc := 106) mX0_isSeen l_X6_124 (by decide) dX6_about_106 (by decide) rfl rfl (by decide) (Nat.le_of_ble_eq_true rfl) (c_X0_isSeen h12' hsl hs (H.2.2.1.2 s)) rfl (fun r106 σ106 hr106 => ?_)
        obtain ⟨rfl, rfl⟩ := hr106
        refine z_cS1 (pc := 109) mX6_asNumber l_X6_117 (by decide) dX6_about_109 (by decide) (Nat.le_of_ble_eq_true rfl) (c_X6_asNumber) rfl (fun r109 σ109 hr109 => ?_)
        obtain ⟨rfl, rfl⟩ := hr109
        exact z_ireturn (pc := 112) dX6_about_112 rfl rfl (⟨⟨_, rfl⟩, rfl⟩)
      · refine z_tabIn (pc := 15) (tgt := 113) (off := 98) dX6_about_15 (by decide) (by decide) (by decide) (by decide) ?_
        refine z_aload_n (pc := 113) dX6_about_113 rfl ?_
        refine z_getA (pc := 114) f_X6_35 dX6_about_114 (by decide) rfl rfl ?_
        refine z_iload_n (pc := 117) dX6_about_117 rfl ?_
        refine z_cV1 (pc := 118) mX0_flipsOf l_X6_127 (by decide) dX6_about_118 (by decide) rfl rfl (by decide) (Nat.le_of_ble_eq_true rfl) (c_X0_flipsOf h12') rfl (fun r118 σ118 hr118 => ?_)
        obtain ⟨rfl, rfl⟩ := hr118
        exact z_ireturn (pc := 121) dX6_about_121 rfl rfl (⟨⟨_, rfl⟩, rfl⟩)
      · refine z_tabIn (pc := 15) (tgt := 122) (off := 107) dX6_about_15 (by decide) (by decide) (by decide) (by decide) ?_
        refine z_aload_n (pc := 122) dX6_about_122 rfl ?_
        refine z_getA (pc := 123) f_X6_35 dX6_about_123 (by decide) rfl rfl ?_
        refine z_iload_n (pc := 126) dX6_about_126 rfl ?_
        refine z_cV1 (pc := 127) mX0_lostOf l_X6_130 (by decide) dX6_about_127 (by decide) rfl rfl (by decide) (Nat.le_of_ble_eq_true rfl) (c_X0_lostOf h12') rfl (fun r127 σ127 hr127 => ?_)
        obtain ⟨rfl, rfl⟩ := hr127
        exact z_ireturn (pc := 130) dX6_about_130 rfl rfl (⟨⟨_, rfl⟩, rfl⟩)
      · refine z_tabIn (pc := 15) (tgt := 131) (off := 116) dX6_about_15 (by decide) (by decide) (by decide) (by decide) ?_
        refine z_aload_n (pc := 131) dX6_about_131 rfl ?_
        refine z_getA (pc := 132) f_X6_19 dX6_about_132 (by decide) rfl rfl ?_
        refine z_iload_n (pc := 135) dX6_about_135 rfl ?_
        refine z_cV1 (pc := 136) mX4_kindOf l_X6_133 (by decide) dX6_about_136 (by decide) rfl rfl (by decide) (Nat.le_of_ble_eq_true rfl) (c_X4_kindOf h12') rfl (fun r136 σ136 hr136 => ?_)
        obtain ⟨rfl, rfl⟩ := hr136
        exact z_ireturn (pc := 139) dX6_about_139 rfl rfl (⟨⟨_, rfl⟩, rfl⟩)
      · refine z_tabIn (pc := 15) (tgt := 140) (off := 125) dX6_about_15 (by decide) (by decide) (by decide) (by decide) ?_
        refine z_aload_n (pc := 140) dX6_about_140 rfl ?_
        refine z_getA (pc := 141) f_X6_35 dX6_about_141 (by decide) rfl rfl ?_
        refine z_iload_n (pc := 144) dX6_about_144 rfl ?_
        refine z_aload_n (pc := 145) dX6_about_145 rfl ?_
        refine z_getI (pc := 146) f_X6_55 dX6_about_146 (by decide) rfl rfl ?_
        refine z_cV2 (pc := 149) mX0_ticksTillOpen l_X6_136 (by decide) dX6_about_149 (by decide) rfl rfl (by decide) (Nat.le_of_ble_eq_true rfl) (c_X0_ticksTillOpen h12' hsl hs) rfl (fun r149 σ149 hr149 => ?_)
        obtain ⟨rfl, rfl⟩ := hr149
        exact z_ireturn (pc := 152) dX6_about_152 rfl rfl (⟨⟨_, rfl⟩, rfl⟩)
      · refine z_tabIn (pc := 15) (tgt := 153) (off := 138) dX6_about_15 (by decide) (by decide) (by decide) (by decide) ?_
        refine z_aload_n (pc := 153) dX6_about_153 rfl ?_
        refine z_getA (pc := 154) f_X6_19 dX6_about_154 (by decide) rfl rfl ?_
        refine z_iload_n (pc := 157) dX6_about_157 rfl ?_
        refine z_cV1 (pc := 158) mX4_markOf l_X6_139 (by decide) dX6_about_158 (by decide) rfl rfl (by decide) (Nat.le_of_ble_eq_true rfl) (c_X4_markOf h12') rfl (fun r158 σ158 hr158 => ?_)
        obtain ⟨rfl, rfl⟩ := hr158
        exact z_ireturn (pc := 161) dX6_about_161 rfl rfl (⟨⟨_, rfl⟩, rfl⟩)
    · refine z_tabOut (pc := 15) (tgt := 162) dX6_about_15 (by omega) (by decide) ?_
      refine z_bipush (pc := 162) (v := (-2)) dX6_about_162 (by decide) ?_
      exact z_ireturn (pc := 164) dX6_about_164 rfl rfl (⟨⟨_, rfl⟩, rfl⟩)
  · refine z_bipush (pc := 11) (v := (-2)) dX6_about_11 (by decide) ?_
    exact z_ireturn (pc := 13) dX6_about_13 rfl rfl (⟨⟨_, rfl⟩, rfl⟩)
set_option maxRecDepth 20000 in
theorem k_event {σ : z_Sto} {n e h : Nat} {x y : Int32} {T O : Nat → List Nat} (H : x_inv σ n e h T O) : z_R layX iX6_event 0 [some (.ref 0), some (.int x), some (.int y)] [] σ (fun r σ' => x_some r ∧ σ' = σ) := by
  have h3 := H.1.2.2.2.1
  refine z_iload_n (pc := 0) dX6_event_0 rfl ?_
  refine z_if_lt (pc := 1) (tgt := 13) dX6_event_1 (by decide) (fun h1 => ?_) (fun h1 => ?_)
  · refine z_bipush (pc := 13) (v := (-2)) dX6_event_13 (by decide) ?_
    exact z_ireturn (pc := 15) dX6_event_15 rfl rfl (⟨⟨_, rfl⟩, rfl⟩)
  · refine z_iload_n (pc := 4) dX6_event_4 rfl ?_
    refine z_if_lt (pc := 5) (tgt := 13) dX6_event_5 (by decide) (fun h5 => ?_) (fun h5 => ?_)
    · refine z_bipush (pc := 13) (v := (-2)) dX6_event_13 (by decide) ?_
      exact z_ireturn (pc := 15) dX6_event_15 rfl rfl (⟨⟨_, rfl⟩, rfl⟩)
    · refine z_iload_n (pc := 8) dX6_event_8 rfl ?_
      refine z_iconst (pc := 9) (v := (nI 2)) dX6_event_9 (by decide) ?_
      refine z_icmp_le (pc := 10) (tgt := 16) dX6_event_10 (by decide) (fun h10 => ?_) (fun h10 => ?_)
      · obtain ⟨k2, hk2, rfl⟩ : ∃ k, k < 3 ∧ y = nI k := z_ix (n := 3) (by decide) h5 (fun g => by have := Int32.le_trans g h10; exact absurd this (by decide))
        refine z_iload_n (pc := 16) dX6_event_16 rfl ?_
        refine z_aload_n (pc := 17) dX6_event_17 rfl ?_
        refine z_getA (pc := 18) f_X6_26 dX6_event_18 (by decide) rfl rfl ?_
        refine z_cV0 (pc := 21) mX1_size l_X6_145 (by decide) dX6_event_21 (by decide) rfl rfl (by decide) (Nat.le_of_ble_eq_true rfl) (c_X1_size) rfl (fun r21 σ21 hr21 => ?_)
        obtain ⟨rfl, rfl⟩ := hr21
        rw [H.1.2.2.1]
        refine z_icmp_lt (pc := 24) (tgt := 29) dX6_event_24 (by decide) (fun h24 => ?_) (fun h24 => ?_)
        · obtain ⟨j, hj, rfl⟩ : ∃ k, k < e ∧ x = nI k := z_ix (n := e) (by omega) h1 (z_nle h24)
          refine z_iload_n (pc := 29) dX6_event_29 rfl ?_
          rcases (show k2 = 0 ∨ k2 = 1 ∨ k2 = 2 by omega) with rfl | rfl | rfl
          · refine z_look (pc := 30) (tgt := 56) (off := 26) dX6_event_30 (by decide) (by decide) (by decide) ?_
            refine z_aload_n (pc := 56) dX6_event_56 rfl ?_
            refine z_getA (pc := 57) f_X6_26 dX6_event_57 (by decide) rfl rfl ?_
            refine z_iload_n (pc := 60) dX6_event_60 rfl ?_
            refine z_cV1 (pc := 61) mX1_lineAt l_X6_149 (by decide) dX6_event_61 (by decide) rfl rfl (by decide) (Nat.le_of_ble_eq_true rfl) (c_X1_lineAt (by omega)) rfl (fun r61 σ61 hr61 => ?_)
            obtain ⟨rfl, rfl⟩ := hr61
            exact z_ireturn (pc := 64) dX6_event_64 rfl rfl (⟨⟨_, rfl⟩, rfl⟩)
          · refine z_look (pc := 30) (tgt := 65) (off := 35) dX6_event_30 (by decide) (by decide) (by decide) ?_
            refine z_aload_n (pc := 65) dX6_event_65 rfl ?_
            refine z_getA (pc := 66) f_X6_26 dX6_event_66 (by decide) rfl rfl ?_
            refine z_iload_n (pc := 69) dX6_event_69 rfl ?_
            refine z_cV1 (pc := 70) mX1_whatAt l_X6_152 (by decide) dX6_event_70 (by decide) rfl rfl (by decide) (Nat.le_of_ble_eq_true rfl) (c_X1_whatAt (by omega)) rfl (fun r70 σ70 hr70 => ?_)
            obtain ⟨rfl, rfl⟩ := hr70
            exact z_ireturn (pc := 73) dX6_event_73 rfl rfl (⟨⟨_, rfl⟩, rfl⟩)
          · refine z_look (pc := 30) (tgt := 74) (off := 44) dX6_event_30 (by decide) (by decide) (by decide) ?_
            refine z_aload_n (pc := 74) dX6_event_74 rfl ?_
            refine z_getA (pc := 75) f_X6_26 dX6_event_75 (by decide) rfl rfl ?_
            refine z_iload_n (pc := 78) dX6_event_78 rfl ?_
            refine z_cV1 (pc := 79) mX1_tickAt l_X6_155 (by decide) dX6_event_79 (by decide) rfl rfl (by decide) (Nat.le_of_ble_eq_true rfl) (c_X1_tickAt (by omega)) rfl (fun r79 σ79 hr79 => ?_)
            obtain ⟨rfl, rfl⟩ := hr79
            exact z_ireturn (pc := 82) dX6_event_82 rfl rfl (⟨⟨_, rfl⟩, rfl⟩)
        · refine z_iconst (pc := 27) (v := (-1)) dX6_event_27 (by decide) ?_
          exact z_ireturn (pc := 28) dX6_event_28 rfl rfl (⟨⟨_, rfl⟩, rfl⟩)
      · refine z_bipush (pc := 13) (v := (-2)) dX6_event_13 (by decide) ?_
        exact z_ireturn (pc := 15) dX6_event_15 rfl rfl (⟨⟨_, rfl⟩, rfl⟩)
