/-! CalmLines: way, bind, again, marks, own, echoes, count, flood, digest -/
theorem x_inv_up {σ : z_Sto} {n e h c k : Nat} {v : Int32} {T O : Nat → List Nat} (H : x_inv σ n e h T O) (hc : c = 0 ∨ c = 6 ∨ (20 < c ∧ c < 36)) : x_inv (z_up σ c k v) n e h T O :=
  x_inv_fr H (x_up_brd H.2.2.1 (fun q => by omega)) (fun c' hc' => z_up_ne _ _ _ (by omega))
def x_wy (a b t : Nat) (f : Nat → Int32) : Nat → Int32 := upd (upd f (a * 5 + b) (nI t)) (b * 5 + a) (nI t)
theorem x_wy01 {a b t : Nat} {f : Nat → Int32} (ht : t < 2) (h : ∀ k, k < 25 → f k = nI 0 ∨ f k = nI 1) : ∀ k, k < 25 → x_wy a b t f k = nI 0 ∨ x_wy a b t f k = nI 1 := by
  intro k hk
  have ht' : nI t = nI 0 ∨ nI t = nI 1 := by rcases (show t = 0 ∨ t = 1 by omega) with rfl | rfl <;> simp
  unfold x_wy upd
  split
  · exact ht'
  · split
    · exact ht'
    · exact h k hk
def x_way (a b : Nat) (t : Nat) (σ : z_Sto) : z_Sto := if t = 0 then z_up (z_up (z_up (z_up (z_up σ 36 (a * 5 + b) (nI 0)) 36 (b * 5 + a) (nI 0)) 35 9 (σ 35 9 + -1)) 37 (a * 5 + b) (nI 0)) 37 (b * 5 + a) (nI 0) else z_up (z_up (z_up σ 36 (a * 5 + b) (nI 1)) 36 (b * 5 + a) (nI 1)) 35 9 (σ 35 9 + nI 1)
theorem x_way_fr {a b t c : Nat} {σ : z_Sto} (h : c ≠ 35 ∧ c ≠ 36 ∧ c ≠ 37) : x_way a b t σ c = σ c := by
  unfold x_way
  split
  · rw [z_up_ne _ _ _ h.2.2, z_up_ne _ _ _ h.2.2, z_up_ne _ _ _ h.1, z_up_ne _ _ _ h.2.1, z_up_ne _ _ _ h.2.1]
  · rw [z_up_ne _ _ _ h.1, z_up_ne _ _ _ h.2.1, z_up_ne _ _ _ h.2.1]
theorem x_way_36 {a b t : Nat} {σ : z_Sto} (ht : t < 2) : x_way a b t σ 36 = x_wy a b t (σ 36) := by
  unfold x_way x_wy
  rcases (show t = 0 ∨ t = 1 by omega) with rfl | rfl
  · rw [if_pos rfl, z_up_ne _ _ _ (by decide), z_up_ne _ _ _ (by decide), z_up_ne _ _ _ (by decide), z_up_same, z_up_same]
  · rw [if_neg (by decide), z_up_ne _ _ _ (by decide), z_up_same, z_up_same]
def y_way (a b t : Nat) (T : Nat → List Nat) : Nat → List Nat := if t = 0 then va_up (va_up T (a * 5 + b) []) (b * 5 + a) [] else T
theorem y_up_ok {σ : z_Sto} {T : Nat → List Nat} {p : Nat} (h : x_told_ok σ T) : x_told_ok (z_up σ 37 p (nI 0)) (va_up T p []) := by
  refine ⟨fun k hk => ?_, fun k hk => ?_⟩
  · by_cases e : k = p
    · subst e; simp only [va_up, if_true]; exact y_ok_nil
    · simp only [va_up, if_neg e]; exact h.1 k hk
  · rw [z_up_same]
    by_cases e : k = p
    · subst e; rw [z_upd_s]; simp only [va_up, if_true]; rfl
    · rw [z_upd_n e]; simp only [va_up, if_neg e]; exact h.2 k hk
theorem x_told_fr {σ τ : z_Sto} {T : Nat → List Nat} (h : x_told_ok σ T) (e : τ 37 = σ 37) : x_told_ok τ T := ⟨h.1, fun k hk => by rw [e]; exact h.2 k hk⟩
theorem x_way_told {a b t : Nat} {σ : z_Sto} {T : Nat → List Nat} (ht : t < 2) (h : x_told_ok σ T) : x_told_ok (x_way a b t σ) (y_way a b t T) := by
  unfold x_way y_way
  rcases (show t = 0 ∨ t = 1 by omega) with rfl | rfl
  · rw [if_pos rfl, if_pos rfl]
    exact y_up_ok (y_up_ok (x_told_fr h (by rw [z_up_ne _ _ _ (by decide), z_up_ne _ _ _ (by decide), z_up_ne _ _ _ (by decide)])))
  · rw [if_neg (by decide), if_neg (by decide)]
    exact x_told_fr h (by rw [z_up_ne _ _ _ (by decide), z_up_ne _ _ _ (by decide), z_up_ne _ _ _ (by decide)])
theorem x_way_inv {σ : z_Sto} {n e h a b t : Nat} {T O : Nat → List Nat} (ht : t < 2) (H : x_inv σ n e h T O) : x_inv (x_way a b t σ) n e h (y_way a b t T) O := by
  obtain ⟨a1, a2, a3, a4, a5, a6, a7⟩ := H
  refine ⟨x_ok_fr a1 (fun c hc => x_way_fr (by omega)), ?_, ⟨fun j => by rw [x_way_fr (by decide)]; exact a3.1 j, fun j => by rw [x_way_fr (by decide)]; exact a3.2 j⟩, ?_, x_way_told ht a5, ?_, ?_⟩
  · intro i hi; rw [x_way_fr (by decide)]; exact a2 i hi
  · intro k hk; rw [x_way_36 ht]; exact x_wy01 ht a4 k hk
  · intro k hk; rw [x_way_fr (by decide)]; exact a6 k hk
  · intro k hk; rw [x_way_fr (by decide)]; exact a7 k hk
def x_wok (x y : Int32) : Prop := ∃ a b, a < 5 ∧ b < 5 ∧ a ≠ b ∧ x = nI a ∧ y = nI b
set_option maxRecDepth 20000 in
theorem k_way {σ : z_Sto} {n e h t : Nat} {x y : Int32} {T O : Nat → List Nat} (H : x_inv σ n e h T O) (ht : t < 2) : z_R layX iX6_way 0 [some (.ref 0), some (.int x), some (.int y), some (.int (nI t))] [] σ (fun r σ' => (¬ x_wok x y ∧ r = some (.int (-2)) ∧ σ' = σ) ∨ (∃ a b, a < 5 ∧ b < 5 ∧ a ≠ b ∧ x = nI a ∧ y = nI b ∧ ((σ 36 (a * 5 + b) = nI t ∧ r = some (.int (-3)) ∧ σ' = σ) ∨ (¬ σ 36 (a * 5 + b) = nI t ∧ r = some (.int (nI 1)) ∧ σ' = x_way a b t σ)))) := by
  refine z_iload_n (pc := 0) dX6_way_0 rfl ?_
  refine z_cS1 (pc := 1) mX2_isHouse l_X6_175 (by decide) dX6_way_1 (by decide) (Nat.le_of_ble_eq_true rfl) (c_isHouse) rfl (fun r1 σ1 hr1 => ?_)
  obtain ⟨v1, rfl, g1, g2, rfl⟩ := hr1
  refine z_if_eq (pc := 4) (tgt := 19) dX6_way_4 (by decide) (fun h4 => ?_) (fun h4 => ?_)
  · have w4 : ¬ x_wok x y := fun ⟨a, b, ha, hb, _, ex, _⟩ => g2 h4 a ha ex
    refine z_bipush (pc := 19) (v := (-2)) dX6_way_19 (by decide) ?_
    exact z_ireturn (pc := 21) dX6_way_21 rfl rfl (Or.inl ⟨w4, rfl, rfl⟩)
  · obtain ⟨a, ha, rfl⟩ := g1 h4
    refine z_iload_n (pc := 7) dX6_way_7 rfl ?_
    refine z_cS1 (pc := 8) mX2_isHouse l_X6_175 (by decide) dX6_way_8 (by decide) (Nat.le_of_ble_eq_true rfl) (c_isHouse) rfl (fun r8 σ8 hr8 => ?_)
    obtain ⟨v8, rfl, g8, g9, rfl⟩ := hr8
    refine z_if_eq (pc := 11) (tgt := 19) dX6_way_11 (by decide) (fun h11 => ?_) (fun h11 => ?_)
    · have w4 : ¬ x_wok (nI a) y := fun ⟨a', b, ha, hb, _, _, ey⟩ => g9 h11 b hb ey
      refine z_bipush (pc := 19) (v := (-2)) dX6_way_19 (by decide) ?_
      exact z_ireturn (pc := 21) dX6_way_21 rfl rfl (Or.inl ⟨w4, rfl, rfl⟩)
    · obtain ⟨b, hb, rfl⟩ := g8 h11
      refine z_iload_n (pc := 14) dX6_way_14 rfl ?_
      refine z_iload_n (pc := 15) dX6_way_15 rfl ?_
      refine z_icmp_ne (pc := 16) (tgt := 22) dX6_way_16 (by decide) (fun h16 => ?_) (fun h16 => ?_)
      · have hab : a ≠ b := fun q => h16 (by rw [q])
        refine z_aload_n (pc := 22) dX6_way_22 rfl ?_
        refine z_getA (pc := 23) f_X6_51 dX6_way_23 (by decide) rfl rfl ?_
        refine z_iload_n (pc := 26) dX6_way_26 rfl ?_
        refine z_iload_n (pc := 27) dX6_way_27 rfl ?_
        refine z_cV2 (pc := 28) mX2_hasWay l_X6_178 (by decide) dX6_way_28 (by decide) rfl rfl (by decide) (Nat.le_of_ble_eq_true rfl) (c_X2_hasWay ha hb H.2.2.2.1) rfl (fun r28 σ28 hr28 => ?_)
        obtain ⟨rfl, rfl⟩ := hr28
        refine z_iload_n (pc := 31) dX6_way_31 rfl ?_
        refine z_icmp_ne (pc := 32) (tgt := 38) dX6_way_32 (by decide) (fun h32 => ?_) (fun h32 => ?_)
        · refine z_aload_n (pc := 38) dX6_way_38 rfl ?_
          refine z_getA (pc := 39) f_X6_51 dX6_way_39 (by decide) rfl rfl ?_
          refine z_iload_n (pc := 42) dX6_way_42 rfl ?_
          refine z_iload_n (pc := 43) dX6_way_43 rfl ?_
          refine z_iload_n (pc := 44) dX6_way_44 rfl ?_
          refine z_cV3 (pc := 45) mX2_putWay l_X6_181 (by decide) dX6_way_45 (by decide) rfl rfl (by decide) (Nat.le_of_ble_eq_true rfl) ((show z_R layX iX2_putWay 0 [some (.ref 35), some (.int (nI a)), some (.int (nI b)), some (.int (nI t))] [] _ (fun r σ' => r = none ∧ σ' = x_way a b t _) from by rcases (show t = 0 ∨ t = 1 by omega) with rfl | rfl; exact c_X2_putWay0 ha hb; exact c_X2_putWay1 ha hb)) rfl (fun r45 σ45 hr45 => ?_)
          obtain ⟨er45, eσ45⟩ := hr45
          subst er45
          refine z_iconst (pc := 48) (v := (nI 1)) dX6_way_48 (by decide) ?_
          exact z_ireturn (pc := 49) dX6_way_49 rfl rfl (Or.inr ⟨a, b, ha, hb, hab, rfl, rfl, Or.inr ⟨h32, rfl, eσ45⟩⟩)
        · refine z_bipush (pc := 35) (v := (-3)) dX6_way_35 (by decide) ?_
          exact z_ireturn (pc := 37) dX6_way_37 rfl rfl (Or.inr ⟨a, b, ha, hb, hab, rfl, rfl, Or.inl ⟨h32, rfl, rfl⟩⟩)
      · have w4 : ¬ x_wok (nI a) (nI b) := fun ⟨a', b', ha', hb', hne, ea, eb⟩ => hne (by have := z_nI_inj (by omega) (by omega) ea; have := z_nI_inj (by omega) (by omega) eb; have := z_nI_inj (by omega) (by omega) h16; omega)
        refine z_bipush (pc := 19) (v := (-2)) dX6_way_19 (by decide) ?_
        exact z_ireturn (pc := 21) dX6_way_21 rfl rfl (Or.inl ⟨w4, rfl, rfl⟩)
def x_bok (n : Nat) (x y z : Int32) : Prop := ∃ i a b, i < n ∧ a < 5 ∧ b < 5 ∧ a ≠ 0 ∧ b ≠ a ∧ x = nI i ∧ y = nI a ∧ z = nI b
set_option maxRecDepth 20000 in
theorem k_bind {σ : z_Sto} {n e h : Nat} {x y z : Int32} {T O : Nat → List Nat} (H : x_inv σ n e h T O) : z_R layX iX6_bind 0 [some (.ref 0), some (.int x), some (.int y), some (.int z)] [] σ (fun r σ' => (¬ x_bok n x y z ∧ r = some (.int (-2)) ∧ σ' = σ) ∨ (∃ i a b, i < n ∧ a < 5 ∧ b < 5 ∧ a ≠ 0 ∧ b ≠ a ∧ x = nI i ∧ y = nI a ∧ z = nI b ∧ r = some (.int (nI 1)) ∧ σ' = z_up σ 38 (a * 5 + b) (nI i))) := by
  have h12 := H.1.2.1
  refine z_aload_n (pc := 0) dX6_bind_0 rfl ?_
  refine z_getA (pc := 1) f_X6_19 dX6_bind_1 (by decide) rfl rfl ?_
  refine z_iload_n (pc := 4) dX6_bind_4 rfl ?_
  refine z_cV1 (pc := 5) mX4_has l_X6_90 (by decide) dX6_bind_5 (by decide) rfl rfl (by decide) (Nat.le_of_ble_eq_true rfl) (c_has H.1.1 H.1.2.1) rfl (fun r5 σ5 hr5 => ?_)
  obtain ⟨v5, rfl, g5, g6, rfl⟩ := hr5
  refine z_if_eq (pc := 8) (tgt := 22) dX6_bind_8 (by decide) (fun h8 => ?_) (fun h8 => ?_)
  · have w : ¬ x_bok n x y z := fun ⟨i, a, b, hi, _, _, _, _, ex, _, _⟩ => g6 h8 i hi ex
    refine z_bipush (pc := 22) (v := (-2)) dX6_bind_22 (by decide) ?_
    exact z_ireturn (pc := 24) dX6_bind_24 rfl rfl (Or.inl ⟨w, rfl, rfl⟩)
  · obtain ⟨i, hi, rfl⟩ := g5 h8
    refine z_iload_n (pc := 11) dX6_bind_11 rfl ?_
    refine z_cS1 (pc := 12) mX2_isHouse l_X6_175 (by decide) dX6_bind_12 (by decide) (Nat.le_of_ble_eq_true rfl) (c_isHouse) rfl (fun r12 σ12 hr12 => ?_)
    obtain ⟨v12, rfl, g12, g13, rfl⟩ := hr12
    refine z_if_eq (pc := 15) (tgt := 22) dX6_bind_15 (by decide) (fun h15 => ?_) (fun h15 => ?_)
    · have w : ¬ x_bok n (nI i) y z := fun ⟨_, a, b, _, ha, _, _, _, _, ey, _⟩ => g13 h15 a ha ey
      refine z_bipush (pc := 22) (v := (-2)) dX6_bind_22 (by decide) ?_
      exact z_ireturn (pc := 24) dX6_bind_24 rfl rfl (Or.inl ⟨w, rfl, rfl⟩)
    · obtain ⟨a, ha, rfl⟩ := g12 h15
      refine z_iload_n (pc := 18) dX6_bind_18 rfl ?_
      refine z_if_ne (pc := 19) (tgt := 25) dX6_bind_19 (by decide) (fun h19 => ?_) (fun h19 => ?_)
      · have qa : a ≠ 0 := fun q => h19 (by rw [q]; rfl)
        refine z_iload_n (pc := 25) dX6_bind_25 rfl ?_
        refine z_cS1 (pc := 26) mX2_isHouse l_X6_175 (by decide) dX6_bind_26 (by decide) (Nat.le_of_ble_eq_true rfl) (c_isHouse) rfl (fun r26 σ26 hr26 => ?_)
        obtain ⟨v26, rfl, g26, g27, rfl⟩ := hr26
        refine z_if_eq (pc := 29) (tgt := 37) dX6_bind_29 (by decide) (fun h29 => ?_) (fun h29 => ?_)
        · have w : ¬ x_bok n (nI i) (nI a) z := fun ⟨_, _, b, _, _, hb, _, _, _, _, ez⟩ => g27 h29 b hb ez
          refine z_bipush (pc := 37) (v := (-2)) dX6_bind_37 (by decide) ?_
          exact z_ireturn (pc := 39) dX6_bind_39 rfl rfl (Or.inl ⟨w, rfl, rfl⟩)
        · obtain ⟨b, hb, rfl⟩ := g26 h29
          refine z_iload_n (pc := 32) dX6_bind_32 rfl ?_
          refine z_iload_n (pc := 33) dX6_bind_33 rfl ?_
          refine z_icmp_ne (pc := 34) (tgt := 40) dX6_bind_34 (by decide) (fun h34 => ?_) (fun h34 => ?_)
          · have hab : b ≠ a := fun q => h34 (by rw [q])
            refine z_aload_n (pc := 40) dX6_bind_40 rfl ?_
            refine z_getA (pc := 41) f_X6_51 dX6_bind_41 (by decide) rfl rfl ?_
            refine z_iload_n (pc := 44) dX6_bind_44 rfl ?_
            refine z_iload_n (pc := 45) dX6_bind_45 rfl ?_
            refine z_iload_n (pc := 46) dX6_bind_46 rfl ?_
            refine z_cV3 (pc := 47) mX2_putBound l_X6_185 (by decide) dX6_bind_47 (by decide) rfl rfl (by decide) (Nat.le_of_ble_eq_true rfl) (c_X2_putBound ha hb) rfl (fun r47 σ47 hr47 => ?_)
            obtain ⟨rfl, rfl⟩ := hr47
            refine z_iconst (pc := 50) (v := (nI 1)) dX6_bind_50 (by decide) ?_
            exact z_ireturn (pc := 51) dX6_bind_51 rfl rfl (Or.inr ⟨i, a, b, hi, ha, hb, qa, hab, rfl, rfl, rfl, rfl, rfl⟩)
          · have w : ¬ x_bok n (nI i) (nI a) (nI b) := fun ⟨_, a', b', _, ha', hb', _, hne, _, ey, ez⟩ => hne (by have := z_nI_inj (by omega) (by omega) ey; have := z_nI_inj (by omega) (by omega) ez; have := z_nI_inj (by omega) (by omega) h34; omega)
            refine z_bipush (pc := 37) (v := (-2)) dX6_bind_37 (by decide) ?_
            exact z_ireturn (pc := 39) dX6_bind_39 rfl rfl (Or.inl ⟨w, rfl, rfl⟩)
      · have w : ¬ x_bok n (nI i) (nI a) z := fun ⟨_, a', b, _, ha', _, hne, _, _, ey, _⟩ => hne (by have := z_nI_inj (by omega) (by omega) ey; have := z_nI_inj (a := a) (b := 0) (by omega) (by decide) h19; omega)
        refine z_bipush (pc := 22) (v := (-2)) dX6_bind_22 (by decide) ?_
        exact z_ireturn (pc := 24) dX6_bind_24 rfl rfl (Or.inl ⟨w, rfl, rfl⟩)
theorem x_bind_inv {σ : z_Sto} {n e h i p : Nat} {T O : Nat → List Nat} (hi : i < n) (H : x_inv σ n e h T O) : x_inv (z_up σ 38 p (nI i)) n e h T O := by
  obtain ⟨a1, a2, a3, a4, a5, a6, a7⟩ := H
  refine ⟨x_ok_fr a1 (fun c hc => z_up_ne _ _ _ (by omega)), ?_, x_up_brd a3 (fun q => by omega), ?_, x_told_fr a5 (z_up_ne _ _ _ (by decide)), ?_, ?_⟩
  · intro i hi; rw [z_up_ne _ _ _ (by decide)]; exact a2 i hi
  · intro k hk; rw [z_up_ne _ _ _ (by decide)]; exact a4 k hk
  · intro k hk; rw [z_up_ne _ _ _ (by decide)]; exact a6 k hk
  · intro k hk
    rw [z_up_same]
    by_cases q : k = p
    · subst q; rw [z_upd_s]; exact Or.inr ⟨i, hi, rfl⟩
    · rw [z_upd_n q]; exact a7 k hk
theorem x_far {σ τ : z_Sto} {n e h : Nat} {T O : Nat → List Nat} (H : x_inv σ n e h T O) (f : ∀ c, (c < 21 ∨ c = 22 ∨ 34 < c) → τ c = σ c) : x_inv τ n e h T O ∧ x_pub τ σ :=
  ⟨x_inv_fr H ⟨fun i => by rw [f 16 (by decide)]; exact H.2.2.1.1 i, fun i => by rw [f 15 (by decide)]; exact H.2.2.1.2 i⟩ (fun c hc => f c (by omega)), f 0 (by decide), f 2 (by decide), f 3 (by decide), f 6 (by decide), f 36 (by decide)⟩
set_option maxRecDepth 20000 in
theorem k_again {σ : z_Sto} {n e h : Nat} {x s o w : Int32} {T O : Nat → List Nat} (H : x_inv σ n e h T O) : z_R layX iX6_again 0 [some (.ref 0), some (.int x), some (.int s), some (.int o), some (.int w)] [] σ (x_keepP σ n h) := by
  have h12 := H.1.2.1
  refine z_aload_n (pc := 0) dX6_again_0 rfl ?_
  refine z_getA (pc := 1) f_X6_19 dX6_again_1 (by decide) rfl rfl ?_
  refine z_iload_n (pc := 4) dX6_again_4 rfl ?_
  refine z_cV1 (pc := 5) mX4_has l_X6_90 (by decide) dX6_again_5 (by decide) rfl rfl (by decide) (Nat.le_of_ble_eq_true rfl) (c_has H.1.1 H.1.2.1) rfl (fun r5 σ5 hr5 => ?_)
  obtain ⟨v5, rfl, g5, g6, rfl⟩ := hr5
  refine z_if_eq (pc := 8) (tgt := 30) dX6_again_8 (by decide) (fun h8 => ?_) (fun h8 => ?_)
  · refine z_bipush (pc := 30) (v := (-2)) dX6_again_30 (by decide) ?_
    exact z_ireturn (pc := 32) dX6_again_32 rfl rfl (⟨⟨_, rfl⟩, ⟨_, _, _, H⟩, x_pub_rf⟩)
  · obtain ⟨i, hi, rfl⟩ := g5 h8
    refine z_iload_n (pc := 11) dX6_again_11 rfl ?_
    refine z_iload_n (pc := 12) dX6_again_12 rfl ?_
    refine z_cS2 (pc := 13) mX5_areMarks l_X6_158 (by decide) dX6_again_13 (by decide) (Nat.le_of_ble_eq_true rfl) (c_areMarks) rfl (fun r13 σ13 hr13 => ?_)
    obtain ⟨v13, rfl, g13, g14, rfl⟩ := hr13
    refine z_if_eq (pc := 16) (tgt := 30) dX6_again_16 (by decide) (fun h16 => ?_) (fun h16 => ?_)
    · refine z_bipush (pc := 30) (v := (-2)) dX6_again_30 (by decide) ?_
      exact z_ireturn (pc := 32) dX6_again_32 rfl rfl (⟨⟨_, rfl⟩, ⟨_, _, _, H⟩, x_pub_rf⟩)
    · refine z_iload (pc := 19) dX6_again_19 rfl ?_
      refine z_if_lt (pc := 21) (tgt := 30) dX6_again_21 (by decide) (fun h21 => ?_) (fun h21 => ?_)
      · refine z_bipush (pc := 30) (v := (-2)) dX6_again_30 (by decide) ?_
        exact z_ireturn (pc := 32) dX6_again_32 rfl rfl (⟨⟨_, rfl⟩, ⟨_, _, _, H⟩, x_pub_rf⟩)
      · refine z_iload (pc := 24) dX6_again_24 rfl ?_
        refine z_iconst (pc := 26) (v := (nI 1)) dX6_again_26 (by decide) ?_
        refine z_icmp_le (pc := 27) (tgt := 33) dX6_again_27 (by decide) (fun h27 => ?_) (fun h27 => ?_)
        · refine z_aload_n (pc := 33) dX6_again_33 rfl ?_
          refine z_getA (pc := 34) f_X6_44 dX6_again_34 (by decide) rfl rfl ?_
          refine z_iload_n (pc := 37) dX6_again_37 rfl ?_
          refine z_iload_n (pc := 38) dX6_again_38 rfl ?_
          refine z_aload_n (pc := 39) dX6_again_39 rfl ?_
          refine z_getI (pc := 40) f_X6_55 dX6_again_40 (by decide) rfl rfl ?_
          refine z_cV3 (pc := 43) mX3_goOver l_X6_161 (by decide) dX6_again_43 (by decide) rfl rfl (by decide) (Nat.le_of_ble_eq_true rfl) (c_X3_goOver H.1.1 H.1.2.1 H.1.2.2.1 H.1.2.2.2.1 H.1.2.2.2.2.1 H.1.2.2.2.2.2.1 H.1.2.2.2.2.2.2.1 H.1.2.2.2.2.2.2.2) rfl (fun r43 σ43 hr43 => ?_)
          obtain ⟨er43, eσ43⟩ := hr43
          subst er43
          have HH := x_far (τ := σ43) H (fun c hc => by rw [eσ43]; exact x_go_fr (by unfold x_away; omega) (by omega))
          refine z_iload (pc := 46) dX6_again_46 rfl ?_
          refine z_if_ne (pc := 48) (tgt := 62) dX6_again_48 (by decide) (fun h48 => ?_) (fun h48 => ?_)
          · refine z_aload_n (pc := 62) dX6_again_62 rfl ?_
            refine z_getA (pc := 63) f_X6_44 dX6_again_63 (by decide) rfl rfl ?_
            refine z_iload_n (pc := 66) dX6_again_66 rfl ?_
            refine z_cV1 (pc := 67) mX3_lostOf l_X6_165 (by decide) dX6_again_67 (by decide) rfl rfl (by decide) (Nat.le_of_ble_eq_true rfl) (c_X3_lostOf (by omega)) rfl (fun r67 σ67 hr67 => ?_)
            obtain ⟨rfl, rfl⟩ := hr67
            exact z_ireturn (pc := 70) dX6_again_70 rfl rfl (⟨⟨_, rfl⟩, ⟨_, _, _, HH.1⟩, HH.2⟩)
          · refine z_aload_n (pc := 51) dX6_again_51 rfl ?_
            refine z_getA (pc := 52) f_X6_44 dX6_again_52 (by decide) rfl rfl ?_
            refine z_iload_n (pc := 55) dX6_again_55 rfl ?_
            refine z_cV1 (pc := 56) mX3_flipsOf l_X6_164 (by decide) dX6_again_56 (by decide) rfl rfl (by decide) (Nat.le_of_ble_eq_true rfl) (c_X3_flipsOf (by omega)) rfl (fun r56 σ56 hr56 => ?_)
            obtain ⟨rfl, rfl⟩ := hr56
            refine z_goto (pc := 59) (tgt := 70) dX6_again_59 (by decide) ?_
            exact z_ireturn (pc := 70) dX6_again_70 rfl rfl (⟨⟨_, rfl⟩, ⟨_, _, _, HH.1⟩, HH.2⟩)
        · refine z_bipush (pc := 30) (v := (-2)) dX6_again_30 (by decide) ?_
          exact z_ireturn (pc := 32) dX6_again_32 rfl rfl (⟨⟨_, rfl⟩, ⟨_, _, _, H⟩, x_pub_rf⟩)
set_option maxRecDepth 20000 in
theorem k_marks {σ : z_Sto} {n e h : Nat} {q : Int32} {T O : Nat → List Nat} (H : x_inv σ n e h T O) : z_R layX iX6_marks 0 [some (.ref 0), some (.int q)] [] σ (x_keepP σ n h) := by
  refine z_iload_n (pc := 0) dX6_marks_0 rfl ?_
  refine z_if_lt (pc := 1) (tgt := 10) dX6_marks_1 (by decide) (fun h1 => ?_) (fun h1 => ?_)
  · refine z_bipush (pc := 10) (v := (-2)) dX6_marks_10 (by decide) ?_
    exact z_ireturn (pc := 12) dX6_marks_12 rfl rfl (⟨⟨_, rfl⟩, ⟨_, _, _, H⟩, x_pub_rf⟩)
  · refine z_iload_n (pc := 4) dX6_marks_4 rfl ?_
    refine z_bipush (pc := 5) (v := (nI 100)) dX6_marks_5 (by decide) ?_
    refine z_icmp_le (pc := 7) (tgt := 13) dX6_marks_7 (by decide) (fun h7 => ?_) (fun h7 => ?_)
    · refine z_aload_n (pc := 13) dX6_marks_13 rfl ?_
      refine z_getA (pc := 14) f_X6_19 dX6_marks_14 (by decide) rfl rfl ?_
      refine z_cV0 (pc := 17) mX4_markedLines l_X6_169 (by decide) dX6_marks_17 (by decide) rfl rfl (by decide) (Nat.le_of_ble_eq_true rfl) (c_X4_markedLines H.1.1 H.1.2.1) rfl (fun r17 σ17 hr17 => ?_)
      obtain ⟨rfl, rfl⟩ := hr17
      refine z_if_ne (pc := 20) (tgt := 26) dX6_marks_20 (by decide) (fun h20 => ?_) (fun h20 => ?_)
      · refine z_aload_n (pc := 26) dX6_marks_26 rfl ?_
        refine z_getA (pc := 27) f_X6_44 dX6_marks_27 (by decide) rfl rfl ?_
        refine z_iload_n (pc := 30) dX6_marks_30 rfl ?_
        refine z_aload_n (pc := 31) dX6_marks_31 rfl ?_
        refine z_getI (pc := 32) f_X6_55 dX6_marks_32 (by decide) rfl rfl ?_
        refine z_cV2 (pc := 35) mX3_findMarks l_X6_172 (by decide) dX6_marks_35 (by decide) rfl rfl (by decide) (Nat.le_of_ble_eq_true rfl) (c_X3_findMarks H.1) rfl (fun r35 σ35 hr35 => ?_)
        obtain ⟨er35, eσ35⟩ := hr35
        subst er35
        have HH := x_far (τ := σ35) H (fun c hc => by rw [eσ35]; exact x_fm_fr hc)
        exact z_ireturn (pc := 38) dX6_marks_38 rfl rfl (⟨⟨_, rfl⟩, ⟨_, _, _, HH.1⟩, HH.2⟩)
      · refine z_bipush (pc := 23) (v := (-3)) dX6_marks_23 (by decide) ?_
        exact z_ireturn (pc := 25) dX6_marks_25 rfl rfl (⟨⟨_, rfl⟩, ⟨_, _, _, H⟩, x_pub_rf⟩)
    · refine z_bipush (pc := 10) (v := (-2)) dX6_marks_10 (by decide) ?_
      exact z_ireturn (pc := 12) dX6_marks_12 rfl rfl (⟨⟨_, rfl⟩, ⟨_, _, _, H⟩, x_pub_rf⟩)
set_option maxRecDepth 20000 in
theorem k_own {σ : z_Sto} {x y : Int32} : z_R layX iX6_own 0 [some (.ref 0), some (.int x), some (.int y)] [] σ (fun r σ' => x_some r ∧ σ' = σ) := by
  refine z_iload_n (pc := 0) dX6_own_0 rfl ?_
  refine z_cS1 (pc := 1) mX2_isHouse l_X6_175 (by decide) dX6_own_1 (by decide) (Nat.le_of_ble_eq_true rfl) (c_isHouse) rfl (fun r1 σ1 hr1 => ?_)
  obtain ⟨v1, rfl, g1, g2, rfl⟩ := hr1
  refine z_if_eq (pc := 4) (tgt := 11) dX6_own_4 (by decide) (fun h4 => ?_) (fun h4 => ?_)
  · refine z_bipush (pc := 11) (v := (-2)) dX6_own_11 (by decide) ?_
    exact z_ireturn (pc := 13) dX6_own_13 rfl rfl (⟨⟨_, rfl⟩, rfl⟩)
  · obtain ⟨a, ha, rfl⟩ := g1 h4
    refine z_iload_n (pc := 7) dX6_own_7 rfl ?_
    refine z_if_ge (pc := 8) (tgt := 14) dX6_own_8 (by decide) (fun h8 => ?_) (fun h8 => ?_)
    · refine z_aload_n (pc := 14) dX6_own_14 rfl ?_
      refine z_getA (pc := 15) f_X6_51 dX6_own_15 (by decide) rfl rfl ?_
      refine z_iload_n (pc := 18) dX6_own_18 rfl ?_
      refine z_iload_n (pc := 19) dX6_own_19 rfl ?_
      refine z_cV2 (pc := 20) mX2_ownAt l_X6_198 (by decide) dX6_own_20 (by decide) rfl rfl (by decide) (Nat.le_of_ble_eq_true rfl) (c_X2_ownAt ha) rfl (fun r20 σ20 hr20 => ?_)
      obtain ⟨rfl, rfl⟩ := hr20
      exact z_ireturn (pc := 23) dX6_own_23 rfl rfl (⟨⟨_, rfl⟩, rfl⟩)
    · refine z_bipush (pc := 11) (v := (-2)) dX6_own_11 (by decide) ?_
      exact z_ireturn (pc := 13) dX6_own_13 rfl rfl (⟨⟨_, rfl⟩, rfl⟩)
set_option maxRecDepth 20000 in
theorem k_echoes {σ : z_Sto} {x : Int32} : z_R layX iX6_echoes 0 [some (.ref 0), some (.int x)] [] σ (fun r σ' => x_some r ∧ σ' = σ) := by
  refine z_iload_n (pc := 0) dX6_echoes_0 rfl ?_
  refine z_cS1 (pc := 1) mX2_isHouse l_X6_175 (by decide) dX6_echoes_1 (by decide) (Nat.le_of_ble_eq_true rfl) (c_isHouse) rfl (fun r1 σ1 hr1 => ?_)
  obtain ⟨v1, rfl, g1, g2, rfl⟩ := hr1
  refine z_if_ne (pc := 4) (tgt := 10) dX6_echoes_4 (by decide) (fun h4 => ?_) (fun h4 => ?_)
  · obtain ⟨a, ha, rfl⟩ := g1 h4
    refine z_aload_n (pc := 10) dX6_echoes_10 rfl ?_
    refine z_getA (pc := 11) f_X6_51 dX6_echoes_11 (by decide) rfl rfl ?_
    refine z_iload_n (pc := 14) dX6_echoes_14 rfl ?_
    refine z_cV1 (pc := 15) mX2_echoesOf l_X6_201 (by decide) dX6_echoes_15 (by decide) rfl rfl (by decide) (Nat.le_of_ble_eq_true rfl) (c_X2_echoesOf ha) rfl (fun r15 σ15 hr15 => ?_)
    obtain ⟨rfl, rfl⟩ := hr15
    exact z_ireturn (pc := 18) dX6_echoes_18 rfl rfl (⟨⟨_, rfl⟩, rfl⟩)
  · refine z_bipush (pc := 7) (v := (-2)) dX6_echoes_7 (by decide) ?_
    exact z_ireturn (pc := 9) dX6_echoes_9 rfl rfl (⟨⟨_, rfl⟩, rfl⟩)
def x_sh (σ : z_Sto) : Nat → Nat → Nat → Nat
  | 0, _, a => a
  | f + 1, i, a => x_sh σ f (i + 1) (if σ 15 (σ 5 i).toNatClampNeg = 0 then a else a + 1)
set_option maxRecDepth 20000 in
theorem c_X0_shl {σ : z_Sto} {n i a : Nat} (hn : σ 3 3 = nI n) (h12 : n ≤ 12) (hsl : x_slots σ n) (hb : x_brd 11 σ) (hi : i ≤ n) : z_R layX iX0_shutLines 4 [some (.ref 11), some (.int (nI a)), some (.int (nI i))] [] σ (fun r σ' => r = some (.int (nI (x_sh σ (n - i) i a))) ∧ σ' = σ) := by
  generalize hf : n - i = f
  induction f using Nat.strongRecOn generalizing i a
  rename_i f ih
  refine z_iload_n (pc := 4) dX0_shutLines_4 rfl ?_
  refine z_aload_n (pc := 5) dX0_shutLines_5 rfl ?_
  refine z_getA (pc := 6) f_X0_46 dX0_shutLines_6 (by decide) rfl rfl ?_
  refine z_cV0 (pc := 9) mX4_size l_X0_69 (by decide) dX0_shutLines_9 (by decide) rfl rfl (by decide) (Nat.le_of_ble_eq_true rfl) (c_X4_size) rfl (fun r9 σ9 hr9 => ?_)
  obtain ⟨rfl, rfl⟩ := hr9
  rw [hn]
  refine z_icmp_ge (pc := 12) (tgt := 32) dX0_shutLines_12 (by decide) (fun h12 => ?_) (fun h12 => ?_)
  · have q12 : f = 0 := by have := (nI_leI (by omega) (by omega)).mp h12; omega
    refine z_iload_n (pc := 32) dX0_shutLines_32 rfl ?_
    exact z_ireturn (pc := 33) dX0_shutLines_33 rfl rfl (⟨by rw [q12]; rfl, rfl⟩)
  · have q12 : i < n := by have : ¬ n ≤ i := fun q => h12 ((nI_leI (by omega) (by omega)).mpr q); omega
    have hf1 : f = (n - (i + 1)) + 1 := by omega
    obtain ⟨s, hs, hs2⟩ := hsl i q12
    refine z_aload_n (pc := 15) dX0_shutLines_15 rfl ?_
    refine z_iload_n (pc := 16) dX0_shutLines_16 rfl ?_
    refine z_cV1 (pc := 17) mX0_isShut l_X0_66 (by decide) dX0_shutLines_17 (by decide) rfl rfl (by decide) (Nat.le_of_ble_eq_true rfl) (c_X0_isShut (by omega) hs2 hs (hb.2 s)) rfl (fun r17 σ17 hr17 => ?_)
    obtain ⟨rfl, rfl⟩ := hr17
    refine z_if_eq (pc := 20) (tgt := 26) dX0_shutLines_20 (by decide) (fun h20 => ?_) (fun h20 => ?_)
    · refine z_iincN (pc := 26) dX0_shutLines_26 rfl (by decide) rfl rfl ?_
      refine z_goto (pc := 29) (tgt := 4) dX0_shutLines_29 (by decide) ?_
      exact (ih _ (by omega) (i := i + 1) (by omega) rfl).mono (fun r σ' g => ⟨g.1.trans (by rw [hf1, x_sh, hs2, z_cl (by omega)]; first | rw [if_pos h20] | rw [if_neg h20]), g.2⟩)
    · refine z_iincN (pc := 23) dX0_shutLines_23 rfl (by decide) rfl rfl ?_
      refine z_iincN (pc := 26) dX0_shutLines_26 rfl (by decide) rfl rfl ?_
      refine z_goto (pc := 29) (tgt := 4) dX0_shutLines_29 (by decide) ?_
      exact (ih _ (by omega) (i := i + 1) (by omega) rfl).mono (fun r σ' g => ⟨g.1.trans (by rw [hf1, x_sh, hs2, z_cl (by omega)]; first | rw [if_pos h20] | rw [if_neg h20]), g.2⟩)
set_option maxRecDepth 20000 in
theorem c_X0_shutLines {σ : z_Sto} {n : Nat} (hn : σ 3 3 = nI n) (h12 : n ≤ 12) (hsl : x_slots σ n) (hb : x_brd 11 σ) : z_R layX iX0_shutLines 0 [some (.ref 11), none, none] [] σ (fun r σ' => r = some (.int (nI (x_sh σ n 0 0))) ∧ σ' = σ) := by
  refine z_iconst (pc := 0) (v := (nI 0)) dX0_shutLines_0 (by decide) ?_
  refine z_istore_n (pc := 1) dX0_shutLines_1 (by decide) rfl rfl ?_
  refine z_iconst (pc := 2) (v := (nI 0)) dX0_shutLines_2 (by decide) ?_
  refine z_istore_n (pc := 3) dX0_shutLines_3 (by decide) rfl rfl ?_
  exact c_X0_shl (i := 0) (a := 0) hn h12 hsl hb (by omega)
set_option maxRecDepth 20000 in
theorem k_count {σ : z_Sto} {n e h : Nat} {x : Int32} {T O : Nat → List Nat} (H : x_inv σ n e h T O) : z_R layX iX6_count 0 [some (.ref 0), some (.int x)] [] σ (fun r σ' => x_some r ∧ σ' = σ) := by
  refine z_iload_n (pc := 0) dX6_count_0 rfl ?_
  rcases z_sw x 6 (by decide) with ⟨kk1, hkk1, rfl⟩ | hout1
  · rcases (show kk1 = 0 ∨ kk1 = 1 ∨ kk1 = 2 ∨ kk1 = 3 ∨ kk1 = 4 ∨ kk1 = 5 by omega) with rfl | rfl | rfl | rfl | rfl | rfl
    · refine z_tabIn (pc := 1) (tgt := 40) (off := 39) dX6_count_1 (by decide) (by decide) (by decide) (by decide) ?_
      refine z_aload_n (pc := 40) dX6_count_40 rfl ?_
      refine z_getA (pc := 41) f_X6_19 dX6_count_41 (by decide) rfl rfl ?_
      refine z_cV0 (pc := 44) mX4_size l_X6_204 (by decide) dX6_count_44 (by decide) rfl rfl (by decide) (Nat.le_of_ble_eq_true rfl) (c_X4_size) rfl (fun r44 σ44 hr44 => ?_)
      obtain ⟨rfl, rfl⟩ := hr44
      exact z_ireturn (pc := 47) dX6_count_47 rfl rfl (⟨⟨_, rfl⟩, rfl⟩)
    · refine z_tabIn (pc := 1) (tgt := 48) (off := 47) dX6_count_1 (by decide) (by decide) (by decide) (by decide) ?_
      refine z_aload_n (pc := 48) dX6_count_48 rfl ?_
      refine z_getA (pc := 49) f_X6_26 dX6_count_49 (by decide) rfl rfl ?_
      refine z_cV0 (pc := 52) mX1_size l_X6_145 (by decide) dX6_count_52 (by decide) rfl rfl (by decide) (Nat.le_of_ble_eq_true rfl) (c_X1_size) rfl (fun r52 σ52 hr52 => ?_)
      obtain ⟨rfl, rfl⟩ := hr52
      exact z_ireturn (pc := 55) dX6_count_55 rfl rfl (⟨⟨_, rfl⟩, rfl⟩)
    · refine z_tabIn (pc := 1) (tgt := 56) (off := 55) dX6_count_1 (by decide) (by decide) (by decide) (by decide) ?_
      refine z_aload_n (pc := 56) dX6_count_56 rfl ?_
      refine z_getI (pc := 57) f_X6_55 dX6_count_57 (by decide) rfl rfl ?_
      exact z_ireturn (pc := 60) dX6_count_60 rfl rfl (⟨⟨_, rfl⟩, rfl⟩)
    · refine z_tabIn (pc := 1) (tgt := 61) (off := 60) dX6_count_1 (by decide) (by decide) (by decide) (by decide) ?_
      refine z_aload_n (pc := 61) dX6_count_61 rfl ?_
      refine z_getA (pc := 62) f_X6_35 dX6_count_62 (by decide) rfl rfl ?_
      refine z_cV0 (pc := 65) mX0_shutLines l_X6_205 (by decide) dX6_count_65 (by decide) rfl rfl (by decide) (Nat.le_of_ble_eq_true rfl) (c_X0_shutLines H.1.1 H.1.2.1 H.2.1 H.2.2.1) rfl (fun r65 σ65 hr65 => ?_)
      obtain ⟨rfl, rfl⟩ := hr65
      exact z_ireturn (pc := 68) dX6_count_68 rfl rfl (⟨⟨_, rfl⟩, rfl⟩)
    · refine z_tabIn (pc := 1) (tgt := 69) (off := 68) dX6_count_1 (by decide) (by decide) (by decide) (by decide) ?_
      refine z_aload_n (pc := 69) dX6_count_69 rfl ?_
      refine z_getA (pc := 70) f_X6_51 dX6_count_70 (by decide) rfl rfl ?_
      refine z_cV0 (pc := 73) mX2_ways l_X6_208 (by decide) dX6_count_73 (by decide) rfl rfl (by decide) (Nat.le_of_ble_eq_true rfl) (c_X2_ways) rfl (fun r73 σ73 hr73 => ?_)
      obtain ⟨rfl, rfl⟩ := hr73
      exact z_ireturn (pc := 76) dX6_count_76 rfl rfl (⟨⟨_, rfl⟩, rfl⟩)
    · refine z_tabIn (pc := 1) (tgt := 77) (off := 76) dX6_count_1 (by decide) (by decide) (by decide) (by decide) ?_
      refine z_aload_n (pc := 77) dX6_count_77 rfl ?_
      refine z_getA (pc := 78) f_X6_51 dX6_count_78 (by decide) rfl rfl ?_
      refine z_cV0 (pc := 81) mX2_lettersOfAll l_X6_211 (by decide) dX6_count_81 (by decide) rfl rfl (by decide) (Nat.le_of_ble_eq_true rfl) (c_X2_lettersOfAll) rfl (fun r81 σ81 hr81 => ?_)
      obtain ⟨rfl, rfl⟩ := hr81
      exact z_ireturn (pc := 84) dX6_count_84 rfl rfl (⟨⟨_, rfl⟩, rfl⟩)
  · refine z_tabOut (pc := 1) (tgt := 85) dX6_count_1 (by omega) (by decide) ?_
    refine z_bipush (pc := 85) (v := (-2)) dX6_count_85 (by decide) ?_
    exact z_ireturn (pc := 87) dX6_count_87 rfl rfl (⟨⟨_, rfl⟩, rfl⟩)
