/-! the reference: way, bind, own, echoes, count, digest; a rule's numbers -/
theorem m_row_nil {τ μ : z_Sto} {T : Nat → List Nat} {p : Nat} (hT : m_told μ T) (e23 : τ 23 = upd (μ 23) p (nI 0)) (e22 : τ 22 = μ 22) : m_told τ (va_up T p []) := by
  intro b hb
  unfold m_row
  rw [e23, e22]
  by_cases q : b = p
  · subst q
    simp only [va_up, if_true]
    exact ⟨y_ok_nil, by rw [z_upd_s]; rfl, fun k hk => absurd hk (by simp)⟩
  · simp only [va_up, if_neg q]
    obtain ⟨o1, o2, o3⟩ := hT b hb
    exact ⟨o1, by rw [z_upd_n q]; exact o2, o3⟩
def m_way (a b t : Nat) (μ : z_Sto) : z_Sto := if t = 0 then z_up (z_up (z_up (z_up μ 20 (5 * a + b) (nI t)) 20 (5 * b + a) (nI t)) 23 (5 * a + b) (nI 0)) 23 (5 * b + a) (nI 0) else z_up (z_up μ 20 (5 * a + b) (nI t)) 20 (5 * b + a) (nI t)
theorem m_way_fr {a b t c : Nat} {μ : z_Sto} (h : c ≠ 20 ∧ c ≠ 23) : m_way a b t μ c = μ c := by
  unfold m_way
  split
  · rw [z_up_ne _ _ _ h.2, z_up_ne _ _ _ h.2, z_up_ne _ _ _ h.1, z_up_ne _ _ _ h.1]
  · rw [z_up_ne _ _ _ h.1, z_up_ne _ _ _ h.1]
theorem m_way_20 {a b t : Nat} {μ : z_Sto} : m_way a b t μ 20 = upd (upd (μ 20) (5 * a + b) (nI t)) (5 * b + a) (nI t) := by
  unfold m_way
  split
  · rw [z_up_ne _ _ _ (by decide), z_up_ne _ _ _ (by decide), z_up_same, z_up_same]
  · rw [z_up_same, z_up_same]
theorem m_way_inv {μ : z_Sto} {n e h t0 a b t : Nat} {T O : Nat → List Nat} (ht : t < 2) (ha : a < 5) (hb : b < 5) (hab : a ≠ b) (H : m_inv μ n e h t0 T O) : ∃ T', m_inv (m_way a b t μ) n e h t0 T' O := by
  obtain ⟨a1, a2, ⟨c1, c2, c3, c4, c5⟩⟩ := H
  have ht' : nI t = nI 0 ∨ nI t = nI 1 := by rcases (show t = 0 ∨ t = 1 by omega) with rfl | rfl <;> simp
  have hT : ∃ T', m_told (m_way a b t μ) T' := by
    unfold m_way
    split
    · refine ⟨_, m_row_nil (m_row_nil (T := T) (μ := μ) (p := 5 * a + b) c3 ?_ ?_) (z_up_same _ _ _ _) (z_up_ne _ _ _ (by decide))⟩
      · rw [z_up_same, z_up_ne _ _ _ (by decide), z_up_ne _ _ _ (by decide)]
      · rw [z_up_ne _ _ _ (by decide), z_up_ne _ _ _ (by decide), z_up_ne _ _ _ (by decide)]
    · exact ⟨T, fun x hx => m_row_fr (c3 x hx) (by rw [z_up_ne _ _ _ (by decide), z_up_ne _ _ _ (by decide)]) (by rw [z_up_ne _ _ _ (by decide), z_up_ne _ _ _ (by decide)])⟩
  obtain ⟨T', hT'⟩ := hT
  refine ⟨T', m_ok_fr a1 (fun i => by rw [m_way_fr (by decide)]; exact a1.2.2.2.2.2.2.2.2.2 i) (by rw [m_way_fr (by decide)]) (by rw [m_way_fr (by decide)]) (fun c hc => m_way_fr (by omega)), m_num_fr a2 (fun c hc => m_way_fr (by omega)), ?_, ?_, hT', fun x hx => m_row_fr (c4 x hx) (m_way_fr (by decide)) (m_way_fr (by decide)), by rw [m_way_fr (by decide)]; exact c5⟩
  · intro k hk
    rw [m_way_20]
    unfold upd
    split
    · exact ht'
    · split
      · exact ht'
      · exact c1 k hk
  · intro k hk
    rw [m_way_20, z_upd_n (by omega), z_upd_n (by omega)]
    exact c2 k hk
set_option maxRecDepth 20000 in
theorem m_wayC {μ : z_Sto} {n e h t0 t : Nat} {x y : Int32} {T O : Nat → List Nat} (H : m_inv μ n e h t0 T O) (ht : t < 2) : z_R layM iX7_way 0 [some (.ref 0), some (.int x), some (.int y), some (.int (nI t))] [] μ (fun r μ' => (¬ x_wok x y ∧ r = some (.int (-2)) ∧ μ' = μ) ∨ (∃ a b, a < 5 ∧ b < 5 ∧ a ≠ b ∧ x = nI a ∧ y = nI b ∧ ((μ 20 (5 * a + b) = nI t ∧ r = some (.int (-3)) ∧ μ' = μ) ∨ (¬ μ 20 (5 * a + b) = nI t ∧ r = some (.int (nI 1)) ∧ μ' = m_way a b t μ)))) := by
  have hz : nI t = nI 0 ∨ nI t = nI 1 := by rcases (show t = 0 ∨ t = 1 by omega) with rfl | rfl <;> simp
  refine z_iload_n (pc := 0) dX7_way_0 rfl ?_
  refine z_cS1 (pc := 1) mX7_isHouse l_X7_196 (by decide) dX7_way_1 (by decide) (Nat.le_of_ble_eq_true rfl) (m_isHouse) rfl (fun r1 σ1 hr1 => ?_)
  obtain ⟨v1, rfl, g1, g2, rfl⟩ := hr1
  refine z_if_eq (pc := 4) (tgt := 19) dX7_way_4 (by decide) (fun h4 => ?_) (fun h4 => ?_)
  · have w4 : ¬ x_wok x y := fun ⟨a, b, ha, hb, _, ex, _⟩ => g2 h4 a ha ex
    refine z_bipush (pc := 19) (v := (-2)) dX7_way_19 (by decide) ?_
    exact z_ireturn (pc := 21) dX7_way_21 rfl rfl (Or.inl ⟨w4, rfl, rfl⟩)
  · obtain ⟨a, ha, rfl⟩ := g1 h4
    refine z_iload_n (pc := 7) dX7_way_7 rfl ?_
    refine z_cS1 (pc := 8) mX7_isHouse l_X7_196 (by decide) dX7_way_8 (by decide) (Nat.le_of_ble_eq_true rfl) (m_isHouse) rfl (fun r8 σ8 hr8 => ?_)
    obtain ⟨v8, rfl, g8, g9, rfl⟩ := hr8
    refine z_if_eq (pc := 11) (tgt := 19) dX7_way_11 (by decide) (fun h11 => ?_) (fun h11 => ?_)
    · have w4 : ¬ x_wok (nI a) y := fun ⟨a', b, ha, hb, _, _, ey⟩ => g9 h11 b hb ey
      refine z_bipush (pc := 19) (v := (-2)) dX7_way_19 (by decide) ?_
      exact z_ireturn (pc := 21) dX7_way_21 rfl rfl (Or.inl ⟨w4, rfl, rfl⟩)
    · obtain ⟨b, hb, rfl⟩ := g8 h11
      refine z_iload_n (pc := 14) dX7_way_14 rfl ?_
      refine z_iload_n (pc := 15) dX7_way_15 rfl ?_
      refine z_icmp_ne (pc := 16) (tgt := 22) dX7_way_16 (by decide) (fun h16 => ?_) (fun h16 => ?_)
      · have hab : a ≠ b := fun q => h16 (by rw [q])
        refine z_aload_n (pc := 22) dX7_way_22 rfl ?_
        refine z_getA (pc := 23) f_X7_68 dX7_way_23 (by decide) rfl rfl ?_
        refine z_iconst (pc := 26) (v := (nI 5)) dX7_way_26 (by decide) ?_
        refine z_iload_n (pc := 27) dX7_way_27 rfl ?_
        refine z_imulN (pc := 28) dX7_way_28 ?_
        refine z_iload_n (pc := 29) dX7_way_29 rfl ?_
        refine z_iaddN (pc := 30) dX7_way_30 ?_
        refine z_zaldN (pc := 31) dX7_way_31 (by decide) rfl (by decide) (by omega) ?_
        refine z_iload_n (pc := 32) dX7_way_32 rfl ?_
        refine z_icmp_ne (pc := 33) (tgt := 39) dX7_way_33 (by decide) (fun h33 => ?_) (fun h33 => ?_)
        · refine z_aload_n (pc := 39) dX7_way_39 rfl ?_
          refine z_getA (pc := 40) f_X7_68 dX7_way_40 (by decide) rfl rfl ?_
          refine z_iconst (pc := 43) (v := (nI 5)) dX7_way_43 (by decide) ?_
          refine z_iload_n (pc := 44) dX7_way_44 rfl ?_
          refine z_imulN (pc := 45) dX7_way_45 ?_
          refine z_iload_n (pc := 46) dX7_way_46 rfl ?_
          refine z_iaddN (pc := 47) dX7_way_47 ?_
          refine z_iload_n (pc := 48) dX7_way_48 rfl ?_
          refine z_zastN (pc := 49) dX7_way_49 (by decide) rfl (by decide) (by omega) (hz) ?_
          refine z_aload_n (pc := 50) dX7_way_50 rfl ?_
          refine z_getA (pc := 51) f_X7_68 dX7_way_51 (by decide) rfl rfl ?_
          refine z_iconst (pc := 54) (v := (nI 5)) dX7_way_54 (by decide) ?_
          refine z_iload_n (pc := 55) dX7_way_55 rfl ?_
          refine z_imulN (pc := 56) dX7_way_56 ?_
          refine z_iload_n (pc := 57) dX7_way_57 rfl ?_
          refine z_iaddN (pc := 58) dX7_way_58 ?_
          refine z_iload_n (pc := 59) dX7_way_59 rfl ?_
          refine z_zastN (pc := 60) dX7_way_60 (by decide) rfl (by decide) (by omega) (hz) ?_
          refine z_iload_n (pc := 61) dX7_way_61 rfl ?_
          refine z_if_ne (pc := 62) (tgt := 87) dX7_way_62 (by decide) (fun h62 => ?_) (fun h62 => ?_)
          · have q62 : ¬ t = 0 := fun q => h62 (by rw [q]; rfl)
            refine z_iconst (pc := 87) (v := (nI 1)) dX7_way_87 (by decide) ?_
            exact z_ireturn (pc := 88) dX7_way_88 rfl rfl (Or.inr ⟨a, b, ha, hb, hab, rfl, rfl, Or.inr ⟨h33, rfl, by first | rw [m_way, if_pos q62] | rw [m_way, if_neg q62]⟩⟩)
          · have q62 : t = 0 := z_nI_inj (by omega) (by decide) h62
            refine z_aload_n (pc := 65) dX7_way_65 rfl ?_
            refine z_getA (pc := 66) f_X7_77 dX7_way_66 (by decide) rfl rfl ?_
            refine z_iconst (pc := 69) (v := (nI 5)) dX7_way_69 (by decide) ?_
            refine z_iload_n (pc := 70) dX7_way_70 rfl ?_
            refine z_imulN (pc := 71) dX7_way_71 ?_
            refine z_iload_n (pc := 72) dX7_way_72 rfl ?_
            refine z_iaddN (pc := 73) dX7_way_73 ?_
            refine z_iconst (pc := 74) (v := (nI 0)) dX7_way_74 (by decide) ?_
            refine z_iastN (pc := 75) dX7_way_75 (by decide) rfl (by decide) (by omega) ?_
            refine z_aload_n (pc := 76) dX7_way_76 rfl ?_
            refine z_getA (pc := 77) f_X7_77 dX7_way_77 (by decide) rfl rfl ?_
            refine z_iconst (pc := 80) (v := (nI 5)) dX7_way_80 (by decide) ?_
            refine z_iload_n (pc := 81) dX7_way_81 rfl ?_
            refine z_imulN (pc := 82) dX7_way_82 ?_
            refine z_iload_n (pc := 83) dX7_way_83 rfl ?_
            refine z_iaddN (pc := 84) dX7_way_84 ?_
            refine z_iconst (pc := 85) (v := (nI 0)) dX7_way_85 (by decide) ?_
            refine z_iastN (pc := 86) dX7_way_86 (by decide) rfl (by decide) (by omega) ?_
            refine z_iconst (pc := 87) (v := (nI 1)) dX7_way_87 (by decide) ?_
            exact z_ireturn (pc := 88) dX7_way_88 rfl rfl (Or.inr ⟨a, b, ha, hb, hab, rfl, rfl, Or.inr ⟨h33, rfl, by first | rw [m_way, if_pos q62] | rw [m_way, if_neg q62]⟩⟩)
        · refine z_bipush (pc := 36) (v := (-3)) dX7_way_36 (by decide) ?_
          exact z_ireturn (pc := 38) dX7_way_38 rfl rfl (Or.inr ⟨a, b, ha, hb, hab, rfl, rfl, Or.inl ⟨h33, rfl, rfl⟩⟩)
      · have w4 : ¬ x_wok (nI a) (nI b) := fun ⟨a', b', ha', hb', hne, ea, eb⟩ => hne (by have := z_nI_inj (by omega) (by omega) ea; have := z_nI_inj (by omega) (by omega) eb; have := z_nI_inj (by omega) (by omega) h16; omega)
        refine z_bipush (pc := 19) (v := (-2)) dX7_way_19 (by decide) ?_
        exact z_ireturn (pc := 21) dX7_way_21 rfl rfl (Or.inl ⟨w4, rfl, rfl⟩)
theorem m_in1 {x : Int32} : (nI 1 ≤ x ∧ x ≤ nI 4) ↔ ∃ k, k < 5 ∧ k ≠ 0 ∧ x = nI k := by
  constructor
  · rintro ⟨h1, h2⟩
    obtain ⟨k, hk, rfl⟩ := (m_in_k (m := 4) (by decide)).mp ⟨Int32.le_trans (by decide) h1, h2⟩
    have := (nI_leI (by decide) (by omega)).mp h1
    exact ⟨k, hk, by omega, rfl⟩
  · rintro ⟨k, hk, h0, rfl⟩
    exact ⟨nI_le (by omega) (by omega), nI_le (by omega) (by omega)⟩
set_option maxRecDepth 20000 in
theorem m_bind {μ : z_Sto} {n e h t : Nat} {x y z : Int32} {T O : Nat → List Nat} (H : m_inv μ n e h t T O) : z_R layM iX7_bind 0 [some (.ref 0), some (.int x), some (.int y), some (.int z)] [] μ (fun r μ' => (¬ x_bok n x y z ∧ r = some (.int (-2)) ∧ μ' = μ) ∨ (∃ i a b, i < n ∧ a < 5 ∧ b < 5 ∧ a ≠ 0 ∧ b ≠ a ∧ x = nI i ∧ y = nI a ∧ z = nI b ∧ r = some (.int (nI 1)) ∧ μ' = z_up μ 21 (5 * a + b) (nI i))) := by
  have h12 := H.1.2.1
  refine z_aload_n (pc := 0) dX7_bind_0 rfl ?_
  refine z_iload_n (pc := 1) dX7_bind_1 rfl ?_
  refine z_cV1 (pc := 2) mX7_isLine l_X7_154 (by decide) dX7_bind_2 (by decide) rfl rfl (by decide) (Nat.le_of_ble_eq_true rfl) (m_isLine H.1.1 H.1.2.1) rfl (fun r2 σ2 hr2 => ?_)
  obtain ⟨v2, rfl, g1, g2, rfl⟩ := hr2
  refine z_if_eq (pc := 5) (tgt := 29) dX7_bind_5 (by decide) (fun h5 => ?_) (fun h5 => ?_)
  · have w : ¬ x_bok n x y z := fun ⟨i, a, b, hi, _, _, _, _, ex, _, _⟩ => g2 h5 i hi ex
    refine z_bipush (pc := 29) (v := (-2)) dX7_bind_29 (by decide) ?_
    exact z_ireturn (pc := 31) dX7_bind_31 rfl rfl (Or.inl ⟨w, rfl, rfl⟩)
  · obtain ⟨i, hi, rfl⟩ := g1 h5
    refine z_iload_n (pc := 8) dX7_bind_8 rfl ?_
    refine z_iconst (pc := 9) (v := (nI 1)) dX7_bind_9 (by decide) ?_
    refine z_iconst (pc := 10) (v := (nI 4)) dX7_bind_10 (by decide) ?_
    refine z_cS3 (pc := 11) mX7_in l_X7_124 (by decide) dX7_bind_11 (by decide) (Nat.le_of_ble_eq_true rfl) (m_in) rfl (fun r11 σ11 hr11 => ?_)
    obtain ⟨v11, rfl, g3, g4, rfl⟩ := hr11
    refine z_if_eq (pc := 14) (tgt := 29) dX7_bind_14 (by decide) (fun h14 => ?_) (fun h14 => ?_)
    · have w : ¬ x_bok n (nI i) y z := fun ⟨_, a, b, _, ha, _, h0, _, _, ey, _⟩ => g4 h14 (m_in1.mpr ⟨a, ha, h0, ey⟩)
      refine z_bipush (pc := 29) (v := (-2)) dX7_bind_29 (by decide) ?_
      exact z_ireturn (pc := 31) dX7_bind_31 rfl rfl (Or.inl ⟨w, rfl, rfl⟩)
    · obtain ⟨a, ha, qa, rfl⟩ := m_in1.mp (g3 h14)
      refine z_iload_n (pc := 17) dX7_bind_17 rfl ?_
      refine z_cS1 (pc := 18) mX7_isHouse l_X7_196 (by decide) dX7_bind_18 (by decide) (Nat.le_of_ble_eq_true rfl) (m_isHouse) rfl (fun r18 σ18 hr18 => ?_)
      obtain ⟨v18, rfl, g5, g6, rfl⟩ := hr18
      refine z_if_eq (pc := 21) (tgt := 29) dX7_bind_21 (by decide) (fun h21 => ?_) (fun h21 => ?_)
      · have w : ¬ x_bok n (nI i) (nI a) z := fun ⟨_, _, b, _, _, hb, _, _, _, _, ez⟩ => g6 h21 b hb ez
        refine z_bipush (pc := 29) (v := (-2)) dX7_bind_29 (by decide) ?_
        exact z_ireturn (pc := 31) dX7_bind_31 rfl rfl (Or.inl ⟨w, rfl, rfl⟩)
      · obtain ⟨b, hb, rfl⟩ := g5 h21
        refine z_iload_n (pc := 24) dX7_bind_24 rfl ?_
        refine z_iload_n (pc := 25) dX7_bind_25 rfl ?_
        refine z_icmp_ne (pc := 26) (tgt := 32) dX7_bind_26 (by decide) (fun h26 => ?_) (fun h26 => ?_)
        · have hab : b ≠ a := fun q => h26 (by rw [q])
          refine z_aload_n (pc := 32) dX7_bind_32 rfl ?_
          refine z_getA (pc := 33) f_X7_71 dX7_bind_33 (by decide) rfl rfl ?_
          refine z_iconst (pc := 36) (v := (nI 5)) dX7_bind_36 (by decide) ?_
          refine z_iload_n (pc := 37) dX7_bind_37 rfl ?_
          refine z_imulN (pc := 38) dX7_bind_38 ?_
          refine z_iload_n (pc := 39) dX7_bind_39 rfl ?_
          refine z_iaddN (pc := 40) dX7_bind_40 ?_
          refine z_iload_n (pc := 41) dX7_bind_41 rfl ?_
          refine z_iastN (pc := 42) dX7_bind_42 (by decide) rfl (by decide) (by omega) ?_
          refine z_iconst (pc := 43) (v := (nI 1)) dX7_bind_43 (by decide) ?_
          exact z_ireturn (pc := 44) dX7_bind_44 rfl rfl (Or.inr ⟨i, a, b, hi, ha, hb, qa, hab, rfl, rfl, rfl, rfl, rfl⟩)
        · have w : ¬ x_bok n (nI i) (nI a) (nI b) := fun ⟨_, a', b', _, ha', hb', _, hne, _, ey, ez⟩ => hne (by have := z_nI_inj (by omega) (by omega) ey; have := z_nI_inj (by omega) (by omega) ez; have := z_nI_inj (by omega) (by omega) h26; omega)
          refine z_bipush (pc := 29) (v := (-2)) dX7_bind_29 (by decide) ?_
          exact z_ireturn (pc := 31) dX7_bind_31 rfl rfl (Or.inl ⟨w, rfl, rfl⟩)
theorem m_bind_inv {μ : z_Sto} {n e h t i p : Nat} {T O : Nat → List Nat} (hi : i < n) (H : m_inv μ n e h t T O) : m_inv (z_up μ 21 p (nI i)) n e h t T O := by
  obtain ⟨a1, a2, ⟨c1, c2, c3, c4, c5⟩⟩ := H
  refine ⟨m_ok_fr a1 (fun i => by rw [z_up_ne _ _ _ (by decide)]; exact a1.2.2.2.2.2.2.2.2.2 i) (by rw [z_up_ne _ _ _ (by decide)]) (by rw [z_up_ne _ _ _ (by decide)]) (fun c hc => z_up_ne _ _ _ (by omega)), m_num_fr a2 (fun c hc => z_up_ne _ _ _ (by omega)), by rw [z_up_ne _ _ _ (by decide)]; exact c1, by rw [z_up_ne _ _ _ (by decide)]; exact c2, fun x hx => m_row_fr (c3 x hx) (z_up_ne _ _ _ (by decide)) (z_up_ne _ _ _ (by decide)), fun x hx => m_row_fr (c4 x hx) (z_up_ne _ _ _ (by decide)) (z_up_ne _ _ _ (by decide)), fun k hk => ?_⟩
  rw [z_up_same]
  by_cases q : k = p
  · subst q; rw [z_upd_s]; exact Or.inr ⟨i, hi, rfl⟩
  · rw [z_upd_n q]; exact c5 k hk
set_option maxRecDepth 20000 in
theorem m_own {μ : z_Sto} {n e h t : Nat} {x y : Int32} {T O : Nat → List Nat} (H : m_inv μ n e h t T O) : z_R layM iX7_own 0 [some (.ref 0), some (.int x), some (.int y)] [] μ (fun r μ' => x_some r ∧ μ' = μ) := by
  refine z_iload_n (pc := 0) dX7_own_0 rfl ?_
  refine z_cS1 (pc := 1) mX7_isHouse l_X7_196 (by decide) dX7_own_1 (by decide) (Nat.le_of_ble_eq_true rfl) (m_isHouse) rfl (fun r1 σ1 hr1 => ?_)
  obtain ⟨v1, rfl, g1, g2, rfl⟩ := hr1
  refine z_if_ne (pc := 4) (tgt := 12) dX7_own_4 (by decide) (fun h4 => ?_) (fun h4 => ?_)
  · obtain ⟨a, ha, rfl⟩ := g1 h4
    obtain ⟨o1, o2, o3⟩ := H.2.2.2.2.2.1 a ha
    have h5 := y_len o1
    refine z_iload_n (pc := 12) dX7_own_12 rfl ?_
    refine z_iconst (pc := 13) (v := (nI 0)) dX7_own_13 (by decide) ?_
    refine z_aload_n (pc := 14) dX7_own_14 rfl ?_
    refine z_getA (pc := 15) f_X7_83 dX7_own_15 (by decide) rfl rfl ?_
    refine z_iload_n (pc := 18) dX7_own_18 rfl ?_
    refine z_ialdN (pc := 19) dX7_own_19 (by decide) rfl (by decide) (ha) ?_
    rw [o2]
    refine z_iconst (pc := 20) (v := (nI 1)) dX7_own_20 (by decide) ?_
    refine z_isub (pc := 21) dX7_own_21 ?_
    refine z_cS3 (pc := 22) mX7_in l_X7_124 (by decide) dX7_own_22 (by decide) (Nat.le_of_ble_eq_true rfl) (m_in) rfl (fun r22 σ22 hr22 => ?_)
    obtain ⟨v22, rfl, g3, g4, rfl⟩ := hr22
    refine z_if_eq (pc := 25) (tgt := 41) dX7_own_25 (by decide) (fun h25 => ?_) (fun h25 => ?_)
    · refine z_iconst (pc := 41) (v := (-1)) dX7_own_41 (by decide) ?_
      exact z_ireturn (pc := 42) dX7_own_42 rfl rfl (⟨⟨_, rfl⟩, rfl⟩)
    · obtain ⟨k, hk, rfl⟩ := (m_in_n (by omega)).mp (g3 h25)
      refine z_aload_n (pc := 28) dX7_own_28 rfl ?_
      refine z_getA (pc := 29) f_X7_80 dX7_own_29 (by decide) rfl rfl ?_
      refine z_iconst (pc := 32) (v := (nI 5)) dX7_own_32 (by decide) ?_
      refine z_iload_n (pc := 33) dX7_own_33 rfl ?_
      refine z_imulN (pc := 34) dX7_own_34 ?_
      refine z_iload_n (pc := 35) dX7_own_35 rfl ?_
      refine z_iaddN (pc := 36) dX7_own_36 ?_
      refine z_ialdN (pc := 37) dX7_own_37 (by decide) rfl (by decide) (by omega) ?_
      refine z_goto (pc := 38) (tgt := 42) dX7_own_38 (by decide) ?_
      exact z_ireturn (pc := 42) dX7_own_42 rfl rfl (⟨⟨_, rfl⟩, rfl⟩)
  · refine z_bipush (pc := 7) (v := (-2)) dX7_own_7 (by decide) ?_
    refine z_goto (pc := 9) (tgt := 42) dX7_own_9 (by decide) ?_
    exact z_ireturn (pc := 42) dX7_own_42 rfl rfl (⟨⟨_, rfl⟩, rfl⟩)
set_option maxRecDepth 20000 in
theorem m_echoes {μ : z_Sto} {x : Int32} : z_R layM iX7_echoes 0 [some (.ref 0), some (.int x)] [] μ (fun r μ' => x_some r ∧ μ' = μ) := by
  refine z_iload_n (pc := 0) dX7_echoes_0 rfl ?_
  refine z_cS1 (pc := 1) mX7_isHouse l_X7_196 (by decide) dX7_echoes_1 (by decide) (Nat.le_of_ble_eq_true rfl) (m_isHouse) rfl (fun r1 σ1 hr1 => ?_)
  obtain ⟨v1, rfl, g1, g2, rfl⟩ := hr1
  refine z_if_eq (pc := 4) (tgt := 16) dX7_echoes_4 (by decide) (fun h4 => ?_) (fun h4 => ?_)
  · refine z_bipush (pc := 16) (v := (-2)) dX7_echoes_16 (by decide) ?_
    exact z_ireturn (pc := 18) dX7_echoes_18 rfl rfl (⟨⟨_, rfl⟩, rfl⟩)
  · obtain ⟨a, ha, rfl⟩ := g1 h4
    refine z_aload_n (pc := 7) dX7_echoes_7 rfl ?_
    refine z_getA (pc := 8) f_X7_86 dX7_echoes_8 (by decide) rfl rfl ?_
    refine z_iload_n (pc := 11) dX7_echoes_11 rfl ?_
    refine z_ialdN (pc := 12) dX7_echoes_12 (by decide) rfl (by decide) (ha) ?_
    refine z_goto (pc := 13) (tgt := 18) dX7_echoes_13 (by decide) ?_
    exact z_ireturn (pc := 18) dX7_echoes_18 rfl rfl (⟨⟨_, rfl⟩, rfl⟩)
set_option maxRecDepth 20000 in
theorem m_cn59 {μ : z_Sto} {n e h l : Nat} {x v : Int32} (H : m_ok μ n e h) (hl : l ≤ n) : z_R layM iX7_count 59 [some (.ref 0), some (.int x), some (.int v), some (.int (nI l))] [] μ (fun r μ' => x_some r ∧ μ' = μ) := by
  have h12 := H.2.1
  generalize hf : n - l = f
  induction f using Nat.strongRecOn generalizing l v
  rename_i f ih
  refine z_iload_n (pc := 59) dX7_count_59 rfl ?_
  refine z_aload_n (pc := 60) dX7_count_60 rfl ?_
  refine z_getI (pc := 61) f_X7_115 dX7_count_61 (by decide) rfl rfl ?_
  rw [H.1]
  refine z_icmp_ge (pc := 64) (tgt := 95) dX7_count_64 (by decide) (fun h64 => ?_) (fun h64 => ?_)
  · refine z_iload_n (pc := 95) dX7_count_95 rfl ?_
    exact z_ireturn (pc := 96) dX7_count_96 rfl rfl (⟨⟨_, rfl⟩, rfl⟩)
  · have q64 : l < n := by have : ¬ n ≤ l := fun q => h64 ((nI_leI (by omega) (by omega)).mpr q); omega
    have hbl := m_b_lt (H.2.2.2.2.1 l q64) (by omega)
    refine z_iload_n (pc := 67) dX7_count_67 rfl ?_
    refine z_aload_n (pc := 68) dX7_count_68 rfl ?_
    refine z_getA (pc := 69) f_X7_37 dX7_count_69 (by decide) rfl rfl ?_
    refine z_aload_n (pc := 72) dX7_count_72 rfl ?_
    refine z_iconst (pc := 73) (v := (nI 0)) dX7_count_73 (by decide) ?_
    refine z_iload_n (pc := 74) dX7_count_74 rfl ?_
    refine z_cV2 (pc := 75) mX7_bearer l_X7_108 (by decide) dX7_count_75 (by decide) rfl rfl (by decide) (Nat.le_of_ble_eq_true rfl) (m_bearer (by omega) (H.2.2.2.2.1 l q64)) rfl (fun r75 σ75 hr75 => ?_)
    obtain ⟨rfl, rfl⟩ := hr75
    refine z_zaldN (pc := 78) dX7_count_78 (by decide) rfl (by decide) (by omega) ?_
    refine z_if_eq (pc := 79) (tgt := 86) dX7_count_79 (by decide) (fun h79 => ?_) (fun h79 => ?_)
    · refine z_iconst (pc := 86) (v := (nI 0)) dX7_count_86 (by decide) ?_
      refine z_iadd (pc := 87) dX7_count_87 ?_
      refine z_istore_n (pc := 88) dX7_count_88 (by decide) rfl rfl ?_
      refine z_iincN (pc := 89) dX7_count_89 rfl (by decide) rfl rfl ?_
      refine z_goto (pc := 92) (tgt := 59) dX7_count_92 (by decide) ?_
      exact ih _ (by omega) (l := l + 1) (by omega) rfl
    · refine z_iconst (pc := 82) (v := (nI 1)) dX7_count_82 (by decide) ?_
      refine z_goto (pc := 83) (tgt := 87) dX7_count_83 (by decide) ?_
      refine z_iadd (pc := 87) dX7_count_87 ?_
      refine z_istore_n (pc := 88) dX7_count_88 (by decide) rfl rfl ?_
      refine z_iincN (pc := 89) dX7_count_89 rfl (by decide) rfl rfl ?_
      refine z_goto (pc := 92) (tgt := 59) dX7_count_92 (by decide) ?_
      exact ih _ (by omega) (l := l + 1) (by omega) rfl
set_option maxRecDepth 20000 in
theorem m_cn99 {μ : z_Sto} {k : Nat} {x v : Int32} (hk : k ≤ 25) : z_R layM iX7_count 99 [some (.ref 0), some (.int x), some (.int v), some (.int (nI k))] [] μ (fun r μ' => x_some r ∧ μ' = μ) := by
  generalize hf : 25 - k = f
  induction f using Nat.strongRecOn generalizing k v
  rename_i f ih
  refine z_iload_n (pc := 99) dX7_count_99 rfl ?_
  refine z_bipush (pc := 100) (v := (nI 25)) dX7_count_100 (by decide) ?_
  refine z_icmp_ge (pc := 102) (tgt := 128) dX7_count_102 (by decide) (fun h102 => ?_) (fun h102 => ?_)
  · refine z_iload_n (pc := 128) dX7_count_128 rfl ?_
    refine z_iconst (pc := 129) (v := (nI 2)) dX7_count_129 (by decide) ?_
    refine z_idiv (pc := 130) dX7_count_130 (by decide) ?_
    exact z_ireturn (pc := 131) dX7_count_131 rfl rfl (⟨⟨_, rfl⟩, rfl⟩)
  · have q102 : k < 25 := by have : ¬ 25 ≤ k := fun q => h102 ((nI_leI (by decide) (by omega)).mpr q); omega
    refine z_iload_n (pc := 105) dX7_count_105 rfl ?_
    refine z_aload_n (pc := 106) dX7_count_106 rfl ?_
    refine z_getA (pc := 107) f_X7_68 dX7_count_107 (by decide) rfl rfl ?_
    refine z_iload_n (pc := 110) dX7_count_110 rfl ?_
    refine z_zaldN (pc := 111) dX7_count_111 (by decide) rfl (by decide) (q102) ?_
    refine z_if_eq (pc := 112) (tgt := 119) dX7_count_112 (by decide) (fun h112 => ?_) (fun h112 => ?_)
    · refine z_iconst (pc := 119) (v := (nI 0)) dX7_count_119 (by decide) ?_
      refine z_iadd (pc := 120) dX7_count_120 ?_
      refine z_istore_n (pc := 121) dX7_count_121 (by decide) rfl rfl ?_
      refine z_iincN (pc := 122) dX7_count_122 rfl (by decide) rfl rfl ?_
      refine z_goto (pc := 125) (tgt := 99) dX7_count_125 (by decide) ?_
      exact ih _ (by omega) (k := k + 1) (by omega) rfl
    · refine z_iconst (pc := 115) (v := (nI 1)) dX7_count_115 (by decide) ?_
      refine z_goto (pc := 116) (tgt := 120) dX7_count_116 (by decide) ?_
      refine z_iadd (pc := 120) dX7_count_120 ?_
      refine z_istore_n (pc := 121) dX7_count_121 (by decide) rfl rfl ?_
      refine z_iincN (pc := 122) dX7_count_122 rfl (by decide) rfl rfl ?_
      refine z_goto (pc := 125) (tgt := 99) dX7_count_125 (by decide) ?_
      exact ih _ (by omega) (k := k + 1) (by omega) rfl
set_option maxRecDepth 20000 in
theorem m_count {μ : z_Sto} {n e h : Nat} {x : Int32} (H : m_ok μ n e h) : z_R layM iX7_count 0 [some (.ref 0), some (.int x), none, none] [] μ (fun r μ' => x_some r ∧ μ' = μ) := by
  refine z_iconst (pc := 0) (v := (nI 0)) dX7_count_0 (by decide) ?_
  refine z_istore_n (pc := 1) dX7_count_1 (by decide) rfl rfl ?_
  refine z_iload_n (pc := 2) dX7_count_2 rfl ?_
  rcases z_sw x 6 (by decide) with ⟨kk3, hkk3, rfl⟩ | hout3
  · rcases (show kk3 = 0 ∨ kk3 = 1 ∨ kk3 = 2 ∨ kk3 = 3 ∨ kk3 = 4 ∨ kk3 = 5 by omega) with rfl | rfl | rfl | rfl | rfl | rfl
    · refine z_tabIn (pc := 3) (tgt := 40) (off := 37) dX7_count_3 (by decide) (by decide) (by decide) (by decide) ?_
      refine z_aload_n (pc := 40) dX7_count_40 rfl ?_
      refine z_getI (pc := 41) f_X7_115 dX7_count_41 (by decide) rfl rfl ?_
      exact z_ireturn (pc := 44) dX7_count_44 rfl rfl (⟨⟨_, rfl⟩, rfl⟩)
    · refine z_tabIn (pc := 3) (tgt := 45) (off := 42) dX7_count_3 (by decide) (by decide) (by decide) (by decide) ?_
      refine z_aload_n (pc := 45) dX7_count_45 rfl ?_
      refine z_getI (pc := 46) f_X7_147 dX7_count_46 (by decide) rfl rfl ?_
      exact z_ireturn (pc := 49) dX7_count_49 rfl rfl (⟨⟨_, rfl⟩, rfl⟩)
    · refine z_tabIn (pc := 3) (tgt := 50) (off := 47) dX7_count_3 (by decide) (by decide) (by decide) (by decide) ?_
      refine z_aload_n (pc := 50) dX7_count_50 rfl ?_
      refine z_getA (pc := 51) f_X7_22 dX7_count_51 (by decide) rfl rfl ?_
      refine z_iconst (pc := 54) (v := (nI 0)) dX7_count_54 (by decide) ?_
      refine z_ialdN (pc := 55) dX7_count_55 (by decide) rfl (by decide) (by decide) ?_
      exact z_ireturn (pc := 56) dX7_count_56 rfl rfl (⟨⟨_, rfl⟩, rfl⟩)
    · refine z_tabIn (pc := 3) (tgt := 57) (off := 54) dX7_count_3 (by decide) (by decide) (by decide) (by decide) ?_
      refine z_iconst (pc := 57) (v := (nI 0)) dX7_count_57 (by decide) ?_
      refine z_istore_n (pc := 58) dX7_count_58 (by decide) rfl rfl ?_
      exact m_cn59 (l := 0) H (by omega)
    · refine z_tabIn (pc := 3) (tgt := 97) (off := 94) dX7_count_3 (by decide) (by decide) (by decide) (by decide) ?_
      refine z_iconst (pc := 97) (v := (nI 0)) dX7_count_97 (by decide) ?_
      refine z_istore_n (pc := 98) dX7_count_98 (by decide) rfl rfl ?_
      exact m_cn99 (k := 0) (by decide)
    · refine z_tabIn (pc := 3) (tgt := 132) (off := 129) dX7_count_3 (by decide) (by decide) (by decide) (by decide) ?_
      refine z_aload_n (pc := 132) dX7_count_132 rfl ?_
      refine z_getI (pc := 133) f_X7_222 dX7_count_133 (by decide) rfl rfl ?_
      exact z_ireturn (pc := 136) dX7_count_136 rfl rfl (⟨⟨_, rfl⟩, rfl⟩)
  · refine z_tabOut (pc := 3) (tgt := 137) dX7_count_3 (by omega) (by decide) ?_
    refine z_bipush (pc := 137) (v := (-2)) dX7_count_137 (by decide) ?_
    exact z_ireturn (pc := 139) dX7_count_139 rfl rfl (⟨⟨_, rfl⟩, rfl⟩)
set_option maxRecDepth 20000 in
theorem m_dg142 {μ : z_Sto} {O : Nat → List Nat} {a k : Nat} {d : Int64} {Φ : z_Post} (hO : m_ownr μ O) (ha : a < 5) (hk : k ≤ (O a).length) (K : ∀ d' w4, z_R layM iX7_digest 178 [some (.ref 0), some (.long d'), none, some (.int (nI a)), w4] [] μ Φ) : z_R layM iX7_digest 142 [some (.ref 0), some (.long d), none, some (.int (nI a)), some (.int (nI k))] [] μ Φ := by
  obtain ⟨o1, o2, o3⟩ := hO a ha
  have h5 := y_len o1
  generalize hf : (O a).length - k = f
  induction f using Nat.strongRecOn generalizing k d
  rename_i f ih
  refine z_iload (pc := 142) dX7_digest_142 rfl ?_
  refine z_aload_n (pc := 144) dX7_digest_144 rfl ?_
  refine z_getA (pc := 145) f_X7_83 dX7_digest_145 (by decide) rfl rfl ?_
  refine z_iload_n (pc := 148) dX7_digest_148 rfl ?_
  refine z_ialdN (pc := 149) dX7_digest_149 (by decide) rfl (by decide) (ha) ?_
  rw [o2]
  refine z_icmp_ge (pc := 150) (tgt := 178) dX7_digest_150 (by decide) (fun h150 => ?_) (fun h150 => ?_)
  · exact K _ _
  · have q150 : k < (O a).length := by have : ¬ (O a).length ≤ k := fun q => h150 ((nI_leI (by omega) (by omega)).mpr q); omega
    refine z_ldc2 (pc := 153) k_X7_227 dX7_digest_153 ?_
    refine z_lload_n (pc := 156) dX7_digest_156 rfl ?_
    refine z_lmul (pc := 157) dX7_digest_157 ?_
    refine z_aload_n (pc := 158) dX7_digest_158 rfl ?_
    refine z_getA (pc := 159) f_X7_80 dX7_digest_159 (by decide) rfl rfl ?_
    refine z_iconst (pc := 162) (v := (nI 5)) dX7_digest_162 (by decide) ?_
    refine z_iload_n (pc := 163) dX7_digest_163 rfl ?_
    refine z_imulN (pc := 164) dX7_digest_164 ?_
    refine z_iload (pc := 165) dX7_digest_165 rfl ?_
    refine z_iaddN (pc := 167) dX7_digest_167 ?_
    refine z_ialdN (pc := 168) dX7_digest_168 (by decide) rfl (by decide) (by omega) ?_
    refine z_i2l (pc := 169) dX7_digest_169 ?_
    refine z_ladd (pc := 170) dX7_digest_170 ?_
    refine z_lstore_n (pc := 171) dX7_digest_171 (by decide) rfl rfl ?_
    refine z_iincN (pc := 172) dX7_digest_172 rfl (by decide) rfl rfl ?_
    refine z_goto (pc := 175) (tgt := 142) dX7_digest_175 (by decide) ?_
    exact ih _ (by omega) (k := k + 1) (by omega) rfl
set_option maxRecDepth 20000 in
theorem m_dg178 {μ : z_Sto} {a : Nat} {d : Int64} {w4 : Option Value} {Φ : z_Post} (K : ∀ d', z_R layM iX7_digest 134 [some (.ref 0), some (.long d'), none, some (.int (nI (a + 1))), w4] [] μ Φ) : z_R layM iX7_digest 178 [some (.ref 0), some (.long d), none, some (.int (nI a)), w4] [] μ Φ := by
  refine z_ldc2 (pc := 178) k_X7_227 dX7_digest_178 ?_
  refine z_lload_n (pc := 181) dX7_digest_181 rfl ?_
  refine z_lmul (pc := 182) dX7_digest_182 ?_
  refine z_ldc2 (pc := 183) k_X7_232 dX7_digest_183 ?_
  refine z_ladd (pc := 186) dX7_digest_186 ?_
  refine z_lstore_n (pc := 187) dX7_digest_187 (by decide) rfl rfl ?_
  refine z_iincN (pc := 188) dX7_digest_188 rfl (by decide) rfl rfl ?_
  refine z_goto (pc := 191) (tgt := 134) dX7_digest_191 (by decide) ?_
  exact K _
set_option maxRecDepth 20000 in
theorem m_dg134 {μ : z_Sto} {O : Nat → List Nat} {a : Nat} {d : Int64} {v4 : Option Value} (hO : m_ownr μ O) (ha : a ≤ 5) : z_R layM iX7_digest 134 [some (.ref 0), some (.long d), none, some (.int (nI a)), v4] [] μ (fun r μ' => (∃ v : Int64, r = some (.long v)) ∧ μ' = μ) := by
  generalize hf : 5 - a = f
  induction f using Nat.strongRecOn generalizing a d v4
  rename_i f ih
  refine z_iload_n (pc := 134) dX7_digest_134 rfl ?_
  refine z_iconst (pc := 135) (v := (nI 5)) dX7_digest_135 (by decide) ?_
  refine z_icmp_ge (pc := 136) (tgt := 194) dX7_digest_136 (by decide) (fun h136 => ?_) (fun h136 => ?_)
  · refine z_lload_n (pc := 194) dX7_digest_194 rfl ?_
    exact z_lreturn (pc := 195) dX7_digest_195 rfl (⟨⟨_, rfl⟩, rfl⟩)
  · have q136 : a < 5 := by have : ¬ 5 ≤ a := fun q => h136 ((nI_leI (by decide) (by omega)).mpr q); omega
    refine z_iconst (pc := 139) (v := (nI 0)) dX7_digest_139 (by decide) ?_
    refine z_istore (pc := 140) dX7_digest_140 (by decide) rfl rfl ?_
    exact m_dg142 (k := 0) hO q136 (by omega) (fun d' w4 => m_dg178 (fun d2 => ih _ (by omega) (a := a + 1) (by omega) rfl))
set_option maxRecDepth 20000 in
theorem m_dg80 {μ : z_Sto} {n e h t a : Nat} {d : Int64} {v4 : Option Value} {T O : Nat → List Nat} (H : m_inv μ n e h t T O) (ha : a ≤ e) : z_R layM iX7_digest 80 [some (.ref 0), some (.long d), none, some (.int (nI a)), v4] [] μ (fun r μ' => (∃ v : Int64, r = some (.long v)) ∧ μ' = μ) := by
  have h3 := H.1.2.2.2.1
  generalize hf : e - a = f
  induction f using Nat.strongRecOn generalizing a d v4
  rename_i f ih
  refine z_iload_n (pc := 80) dX7_digest_80 rfl ?_
  refine z_aload_n (pc := 81) dX7_digest_81 rfl ?_
  refine z_getI (pc := 82) f_X7_147 dX7_digest_82 (by decide) rfl rfl ?_
  rw [H.1.2.2.1]
  refine z_icmp_ge (pc := 85) (tgt := 132) dX7_digest_85 (by decide) (fun h85 => ?_) (fun h85 => ?_)
  · refine z_iconst (pc := 132) (v := (nI 0)) dX7_digest_132 (by decide) ?_
    refine z_istore_n (pc := 133) dX7_digest_133 (by decide) rfl rfl ?_
    exact m_dg134 (a := 0) H.2.2.2.2.2.1 (by decide)
  · have q85 : a < e := by have : ¬ e ≤ a := fun q => h85 ((nI_leI (by omega) (by omega)).mpr q); omega
    refine z_ldc2 (pc := 88) k_X7_227 dX7_digest_88 ?_
    refine z_ldc2 (pc := 91) k_X7_227 dX7_digest_91 ?_
    refine z_ldc2 (pc := 94) k_X7_227 dX7_digest_94 ?_
    refine z_lload_n (pc := 97) dX7_digest_97 rfl ?_
    refine z_lmul (pc := 98) dX7_digest_98 ?_
    refine z_aload_n (pc := 99) dX7_digest_99 rfl ?_
    refine z_getA (pc := 100) f_X7_56 dX7_digest_100 (by decide) rfl rfl ?_
    refine z_iload_n (pc := 103) dX7_digest_103 rfl ?_
    refine z_ialdN (pc := 104) dX7_digest_104 (by decide) rfl (by decide) (by omega) ?_
    refine z_i2l (pc := 105) dX7_digest_105 ?_
    refine z_ladd (pc := 106) dX7_digest_106 ?_
    refine z_lmul (pc := 107) dX7_digest_107 ?_
    refine z_aload_n (pc := 108) dX7_digest_108 rfl ?_
    refine z_getA (pc := 109) f_X7_59 dX7_digest_109 (by decide) rfl rfl ?_
    refine z_iload_n (pc := 112) dX7_digest_112 rfl ?_
    refine z_ialdN (pc := 113) dX7_digest_113 (by decide) rfl (by decide) (by omega) ?_
    refine z_i2l (pc := 114) dX7_digest_114 ?_
    refine z_ladd (pc := 115) dX7_digest_115 ?_
    refine z_lmul (pc := 116) dX7_digest_116 ?_
    refine z_aload_n (pc := 117) dX7_digest_117 rfl ?_
    refine z_getA (pc := 118) f_X7_62 dX7_digest_118 (by decide) rfl rfl ?_
    refine z_iload_n (pc := 121) dX7_digest_121 rfl ?_
    refine z_ialdN (pc := 122) dX7_digest_122 (by decide) rfl (by decide) (by omega) ?_
    refine z_i2l (pc := 123) dX7_digest_123 ?_
    refine z_ladd (pc := 124) dX7_digest_124 ?_
    refine z_lstore_n (pc := 125) dX7_digest_125 (by decide) rfl rfl ?_
    refine z_iincN (pc := 126) dX7_digest_126 rfl (by decide) rfl rfl ?_
    refine z_goto (pc := 129) (tgt := 80) dX7_digest_129 (by decide) ?_
    exact ih _ (by omega) (a := a + 1) (by omega) rfl
set_option maxRecDepth 20000 in
theorem m_dg44 {μ : z_Sto} {n e h t a k : Nat} {d : Int64} {T O : Nat → List Nat} {Φ : z_Post} (H : m_inv μ n e h t T O) (ha : a < n) (hk : k ≤ 9) (K : ∀ d' w4, z_R layM iX7_digest 33 [some (.ref 0), some (.long d'), none, some (.int (nI (a + 1))), w4] [] μ Φ) : z_R layM iX7_digest 44 [some (.ref 0), some (.long d), none, some (.int (nI a)), some (.int (nI k))] [] μ Φ := by
  generalize hf : 9 - k = f
  induction f using Nat.strongRecOn generalizing k d
  rename_i f ih
  refine z_iload (pc := 44) dX7_digest_44 rfl ?_
  refine z_bipush (pc := 46) (v := (nI 9)) dX7_digest_46 (by decide) ?_
  refine z_icmp_ge (pc := 48) (tgt := 72) dX7_digest_48 (by decide) (fun h48 => ?_) (fun h48 => ?_)
  · refine z_iincN (pc := 72) dX7_digest_72 rfl (by decide) rfl rfl ?_
    refine z_goto (pc := 75) (tgt := 33) dX7_digest_75 (by decide) ?_
    exact K _ _
  · have q48 : k < 9 := by have : ¬ 9 ≤ k := fun q => h48 ((nI_leI (by decide) (by omega)).mpr q); omega
    refine z_ldc2 (pc := 51) k_X7_227 dX7_digest_51 ?_
    refine z_lload_n (pc := 54) dX7_digest_54 rfl ?_
    refine z_lmul (pc := 55) dX7_digest_55 ?_
    refine z_aload_n (pc := 56) dX7_digest_56 rfl ?_
    refine z_iload_n (pc := 57) dX7_digest_57 rfl ?_
    refine z_iload (pc := 58) dX7_digest_58 rfl ?_
    refine z_cV2 (pc := 60) mX7_aboutOf l_X7_167 (by decide) dX7_digest_60 (by decide) rfl rfl (by decide) (Nat.le_of_ble_eq_true rfl) (m_aboutOf H.1 H.2.1 ha) rfl (fun r60 σ60 hr60 => ?_)
    obtain ⟨⟨v60, rfl⟩, rfl⟩ := hr60
    refine z_i2l (pc := 63) dX7_digest_63 ?_
    refine z_ladd (pc := 64) dX7_digest_64 ?_
    refine z_lstore_n (pc := 65) dX7_digest_65 (by decide) rfl rfl ?_
    refine z_iincN (pc := 66) dX7_digest_66 rfl (by decide) rfl rfl ?_
    refine z_goto (pc := 69) (tgt := 44) dX7_digest_69 (by decide) ?_
    exact ih _ (by omega) (k := k + 1) (by omega) rfl
set_option maxRecDepth 20000 in
theorem m_dg33 {μ : z_Sto} {n e h t a : Nat} {d : Int64} {v4 : Option Value} {T O : Nat → List Nat} (H : m_inv μ n e h t T O) (ha : a ≤ n) : z_R layM iX7_digest 33 [some (.ref 0), some (.long d), none, some (.int (nI a)), v4] [] μ (fun r μ' => (∃ v : Int64, r = some (.long v)) ∧ μ' = μ) := by
  have h12 := H.1.2.1
  generalize hf : n - a = f
  induction f using Nat.strongRecOn generalizing a d v4
  rename_i f ih
  refine z_iload_n (pc := 33) dX7_digest_33 rfl ?_
  refine z_aload_n (pc := 34) dX7_digest_34 rfl ?_
  refine z_getI (pc := 35) f_X7_115 dX7_digest_35 (by decide) rfl rfl ?_
  rw [H.1.1]
  refine z_icmp_ge (pc := 38) (tgt := 78) dX7_digest_38 (by decide) (fun h38 => ?_) (fun h38 => ?_)
  · refine z_iconst (pc := 78) (v := (nI 0)) dX7_digest_78 (by decide) ?_
    refine z_istore_n (pc := 79) dX7_digest_79 (by decide) rfl rfl ?_
    exact m_dg80 (a := 0) H (by omega)
  · have q38 : a < n := by have : ¬ n ≤ a := fun q => h38 ((nI_leI (by omega) (by omega)).mpr q); omega
    refine z_iconst (pc := 41) (v := (nI 0)) dX7_digest_41 (by decide) ?_
    refine z_istore (pc := 42) dX7_digest_42 (by decide) rfl rfl ?_
    exact m_dg44 H q38 (by decide) (fun d' w4 => ih _ (by omega) (a := a + 1) (by omega) rfl)
set_option maxRecDepth 20000 in
theorem m_dg6 {μ : z_Sto} {n e h t k : Nat} {d : Int64} {T O : Nat → List Nat} (H : m_inv μ n e h t T O) (hk : k ≤ 6) : z_R layM iX7_digest 6 [some (.ref 0), some (.long d), none, some (.int (nI k)), none] [] μ (fun r μ' => (∃ v : Int64, r = some (.long v)) ∧ μ' = μ) := by
  generalize hf : 6 - k = f
  induction f using Nat.strongRecOn generalizing k d
  rename_i f ih
  refine z_iload_n (pc := 6) dX7_digest_6 rfl ?_
  refine z_bipush (pc := 7) (v := (nI 6)) dX7_digest_7 (by decide) ?_
  refine z_icmp_ge (pc := 9) (tgt := 31) dX7_digest_9 (by decide) (fun h9 => ?_) (fun h9 => ?_)
  · refine z_iconst (pc := 31) (v := (nI 0)) dX7_digest_31 (by decide) ?_
    refine z_istore_n (pc := 32) dX7_digest_32 (by decide) rfl rfl ?_
    exact m_dg33 (a := 0) H (by omega)
  · have q9 : k < 6 := by have : ¬ 6 ≤ k := fun q => h9 ((nI_leI (by decide) (by omega)).mpr q); omega
    refine z_ldc2 (pc := 12) k_X7_227 dX7_digest_12 ?_
    refine z_lload_n (pc := 15) dX7_digest_15 rfl ?_
    refine z_lmul (pc := 16) dX7_digest_16 ?_
    refine z_aload_n (pc := 17) dX7_digest_17 rfl ?_
    refine z_iload_n (pc := 18) dX7_digest_18 rfl ?_
    refine z_cV1 (pc := 19) mX7_count l_X7_229 (by decide) dX7_digest_19 (by decide) rfl rfl (by decide) (Nat.le_of_ble_eq_true rfl) (m_count H.1) rfl (fun r19 σ19 hr19 => ?_)
    obtain ⟨⟨v19, rfl⟩, rfl⟩ := hr19
    refine z_i2l (pc := 22) dX7_digest_22 ?_
    refine z_ladd (pc := 23) dX7_digest_23 ?_
    refine z_lstore_n (pc := 24) dX7_digest_24 (by decide) rfl rfl ?_
    refine z_iincN (pc := 25) dX7_digest_25 rfl (by decide) rfl rfl ?_
    refine z_goto (pc := 28) (tgt := 6) dX7_digest_28 (by decide) ?_
    exact ih _ (by omega) (k := k + 1) (by omega) rfl
set_option maxRecDepth 20000 in
theorem m_digest {μ : z_Sto} {n e h t : Nat} {T O : Nat → List Nat} (H : m_inv μ n e h t T O) : z_R layM iX7_digest 0 [some (.ref 0), none, none, none, none] [] μ (fun r μ' => (∃ v : Int64, r = some (.long v)) ∧ μ' = μ) := by
  refine z_ldc2 (pc := 0) k_X7_225 dX7_digest_0 ?_
  refine z_lstore_n (pc := 3) dX7_digest_3 (by decide) rfl rfl ?_
  refine z_iconst (pc := 4) (v := (nI 0)) dX7_digest_4 (by decide) ?_
  refine z_istore_n (pc := 5) dX7_digest_5 (by decide) rfl rfl ?_
  exact m_dg6 (k := 0) H (by decide)
