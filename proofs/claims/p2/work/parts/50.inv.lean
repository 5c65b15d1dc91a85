/-! what holds of the class's cells between calls -/
def z_01 (x : Int32) : Prop := x = nI 0 ∨ x = nI 1
def x_brd (b : Nat) (σ : z_Sto) : Prop := (∀ i, z_01 (σ (b + 5) i)) ∧ (∀ s, z_01 (σ (b + 4) s))
theorem x_look_brd {b s n : Nat} {σ : z_Sto} (h : x_brd b σ) : x_brd b (x_look b s n σ) := by
  unfold x_brd
  rw [x_look_fr (by omega), x_look_fr (by omega)]
  exact h
theorem x_up_brd {b c k : Nat} {v : Int32} {σ : z_Sto} (h : x_brd b σ) (hv : (c = b + 5 ∨ c = b + 4) → z_01 v) : x_brd b (z_up σ c k v) := by
  refine ⟨fun i => ?_, fun i => ?_⟩
  · rw [z_up_at]
    split
    · split
      · exact hv (by omega)
      · exact h.1 i
    · exact h.1 i
  · rw [z_up_at]
    split
    · split
      · exact hv (by omega)
      · exact h.2 i
    · exact h.2 i
theorem x_lo_brd {b s : Nat} {k : Int32} {f i : Nat} {σ : z_Sto} (h : x_brd b σ) : x_brd b (x_lo b s k f i σ) := by
  unfold x_brd
  rw [x_lo_fr (by omega), x_lo_fr (by omega)]
  exact h
theorem x_set_brd {b v s n : Nat} {to : Int32} {σ : z_Sto} (h : x_brd b σ) : x_brd b (x_set b v s n to σ) := by
  unfold x_set
  split
  · exact x_up_brd h (fun q => by omega)
  · refine x_look_brd (x_lo_brd (x_up_brd (x_up_brd h (fun q => by omega)) (fun _ => ?_)))
    split
    · exact Or.inl rfl
    · exact Or.inr rfl
theorem x_sa_brd {b v n : Nat} {to : Int32} : ∀ (f s : Nat) (σ : z_Sto), x_brd b σ → x_brd b (x_sa b v n to f s σ)
  | 0, _, _, h => h
  | f + 1, s, σ, h => by
    rw [x_sa]
    exact x_sa_brd f (s + 1) _ (x_set_brd h)
theorem x_take_brd {b v s i w n : Nat} {t : Int32} {σ : z_Sto} (h : x_brd b σ) : x_brd b (x_take b v s i w n t σ) := by
  unfold x_take
  refine x_look_brd ?_
  have h1 : x_brd b (x_t2 b i w (x_t1 b v s i w t (x_set b v s n t σ))) := by
    have h2 : x_brd b (x_t1 b v s i w t (x_set b v s n t σ)) := x_up_brd (x_up_brd (x_up_brd (x_set_brd h) (fun q => by omega)) (fun q => by omega)) (fun q => by omega)
    unfold x_t2
    split
    · exact h2
    · refine x_up_brd h2 (fun _ => ?_)
      split
      · exact Or.inr rfl
      · exact Or.inl rfl
  unfold x_t3
  split
  · exact h1
  · exact x_up_brd (x_up_brd h1 (fun _ => Or.inr rfl)) (fun q => by omega)
theorem x_rp_brd {b v : Nat} {t : Int32} {f s : Nat} {σ : z_Sto} (h : x_brd b σ) : x_brd b (x_rp b v t f s σ) := by
  unfold x_brd
  rw [x_rp_fr (by omega), x_rp_fr (by omega)]
  exact h
def x_slots (σ : z_Sto) (n : Nat) : Prop := ∀ i, i < n → ∃ s, s < 16 ∧ σ 5 i = nI s
def x_bnd (σ : z_Sto) (n : Nat) : Prop := ∀ p, p < 25 → σ 38 p = -1 ∨ ∃ k, k < n ∧ σ 38 p = nI k
def x_inv (σ : z_Sto) (n e h : Nat) (T O : Nat → List Nat) : Prop := x_ok σ n e h ∧ x_slots σ n ∧ x_brd 11 σ ∧ x_way_ok σ ∧ x_told_ok σ T ∧ x_own_ok σ O ∧ x_bnd σ n
/-- what most calls leave as it was: now, the rules, the lines, their marks, the ways -/
def x_pub (σ' σ : z_Sto) : Prop := σ' 0 = σ 0 ∧ σ' 2 = σ 2 ∧ σ' 3 = σ 3 ∧ σ' 6 = σ 6 ∧ σ' 36 = σ 36
theorem x_pub_rf {σ : z_Sto} : x_pub σ σ := ⟨rfl, rfl, rfl, rfl, rfl⟩
theorem x_pub.tr {a b c : z_Sto} (h : x_pub a b) (g : x_pub b c) : x_pub a c := ⟨h.1.trans g.1, h.2.1.trans g.2.1, h.2.2.1.trans g.2.2.1, h.2.2.2.1.trans g.2.2.2.1, h.2.2.2.2.trans g.2.2.2.2⟩
/-- only cells of the board or the replay differ -/
theorem x_inv_fr {σ τ : z_Sto} {n e h : Nat} {T O : Nat → List Nat} (H : x_inv σ n e h T O) (hb : x_brd 11 τ) (f : ∀ c, c = 2 ∨ c = 3 ∨ c = 5 ∨ c = 7 ∨ c = 8 ∨ c = 9 ∨ c = 36 ∨ c = 37 ∨ c = 38 ∨ c = 39 → τ c = σ c) : x_inv τ n e h T O := by
  obtain ⟨a1, a2, a3, a4, a5, a6, a7⟩ := H
  refine ⟨x_ok_fr a1 (fun c hc => f c (by omega)), ?_, hb, ?_, ⟨a5.1, ?_⟩, ?_, ?_⟩
  · intro i hi; rw [f 5 (by decide)]; exact a2 i hi
  · intro k hk; rw [f 36 (by decide)]; exact a4 k hk
  · intro k hk; rw [f 37 (by decide)]; exact a5.2 k hk
  · intro k hk; rw [f 39 (by decide)]; exact a6 k hk
  · intro k hk; rw [f 38 (by decide)]; exact a7 k hk
def x_wr (e i w : Nat) (t : Int32) (σ : z_Sto) : z_Sto := z_up (z_up (z_up (z_up σ 8 e (nI i)) 9 e (nI w)) 10 e t) 7 3 (nI (e + 1))
theorem x_wr_fr {e i w c : Nat} {t : Int32} {σ : z_Sto} (h : c ≠ 7 ∧ c ≠ 8 ∧ c ≠ 9 ∧ c ≠ 10) : x_wr e i w t σ c = σ c := by
  rw [x_wr, z_up_ne _ _ _ h.1, z_up_ne _ _ _ h.2.2.2, z_up_ne _ _ _ h.2.2.1, z_up_ne _ _ _ h.2.1]
theorem x_wr_inv {σ : z_Sto} {n e h i w s : Nat} {t : Int32} {T O : Nat → List Nat} (H : x_inv σ n e h T O) (hi : i < n) (hw : w < 3) (he : e < 300) (hs : s < 16) (hsl : σ 5 i = nI s) : x_inv (x_wr e i w t σ) n (e + 1) h T O := by
  obtain ⟨⟨b1, b2, b3, b4, b5, b6, b7⟩, a2, a3, a4, a5, a6, a7⟩ := H
  refine ⟨⟨by rw [x_wr_fr (by decide)]; exact b1, b2, by rw [x_wr, z_up_same, z_upd_s], by omega, ?_, by rw [x_wr_fr (by decide)]; exact b6, b7⟩, ?_, ?_, ?_, ⟨a5.1, ?_⟩, ?_, ?_⟩
  · intro j hj
    by_cases q : j = e
    · subst q
      refine ⟨i, w, s, hi, hw, hs, ?_, ?_, ?_⟩
      · simp [x_wr, z_up_at]
      · simp [x_wr, z_up_at]
      · rw [x_wr_fr (by decide)]; exact hsl
    · obtain ⟨i', w', s', h1, h2, h3, h4, h5, h6⟩ := b5 j (by omega)
      refine ⟨i', w', s', h1, h2, h3, ?_, ?_, ?_⟩
      · simp [x_wr, z_up_at, q, h4]
      · simp [x_wr, z_up_at, q, h5]
      · rw [x_wr_fr (by decide)]; exact h6
  · intro j hj; rw [x_wr_fr (by decide)]; exact a2 j hj
  · exact ⟨fun j => by rw [x_wr_fr (by decide)]; exact a3.1 j, fun j => by rw [x_wr_fr (by decide)]; exact a3.2 j⟩
  · intro k hk; rw [x_wr_fr (by decide)]; exact a4 k hk
  · intro k hk; rw [x_wr_fr (by decide)]; exact a5.2 k hk
  · intro k hk; rw [x_wr_fr (by decide)]; exact a6 k hk
  · intro k hk; rw [x_wr_fr (by decide)]; exact a7 k hk
def x_hap (n e s i w : Nat) (σ : z_Sto) : z_Sto := x_take 11 2 s i w n (σ 0 6) (x_wr e i w (σ 0 6) σ)
theorem x_hap_fr {n e s i w c : Nat} {σ : z_Sto} (h : c < 7 ∨ 20 < c) : x_hap n e s i w σ c = σ c := by
  rw [x_hap, x_take_fr (by unfold x_away; omega), x_wr_fr (by omega)]
theorem x_hap_inv {σ : z_Sto} {n e h i w s : Nat} {T O : Nat → List Nat} (H : x_inv σ n e h T O) (hi : i < n) (hw : w < 3) (he : e < 300) (hs : s < 16) (hsl : σ 5 i = nI s) : x_inv (x_hap n e s i w σ) n (e + 1) h T O ∧ x_pub (x_hap n e s i w σ) σ := by
  have H1 := x_wr_inv (t := σ 0 6) H hi hw he hs hsl
  exact ⟨x_inv_fr H1 (x_take_brd H1.2.2.1) (fun c hc => x_take_fr (by unfold x_away; omega)), x_hap_fr (by decide), x_hap_fr (by decide), x_hap_fr (by decide), x_hap_fr (by decide), x_hap_fr (by decide)⟩
