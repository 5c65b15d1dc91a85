theorem z_iincW {lay : z_Lay} {mi : z_MI} {pc : Nat} {L L' : z_Loc} {st : List Value} {σ : z_Sto} {Φ : z_Post} {i : Nat} {n : Int} {x : Int32} (hd : decode mi.2.1 pc = .ok (.iinc i n, 6)) (hx : L[i]? = some (some (.int x))) (hn : i < mi.2.2.1) (h2 : z_ok1 L i = true) (hL' : L.set i (some (.int (x + Int32.ofInt n))) = L') (kk : z_R lay mi (pc + 6) L' st σ Φ) : z_R lay mi pc L st σ Φ := by
  intro l ad cI cZ D p e s m args below meth c A H locs ls hC hK hP hD hS hL
  subst hL'
  obtain ⟨k, hk⟩ := z_lvk (ad := ad) hx
  exact lv_iincW hC.1 hC.2.1 hd hL.lv hk rfl hn rfl (fun ls' h' => kk l ad cI cZ D p e s m args below meth c A H locs ls' hC hK hP hD hS (z_Lh.st1 (v := .int (x + Int32.ofInt n)) rfl (z_ok1.no2 h2) h'))
/-! numbers -/
theorem z_no_neg {x : Int32} {n : Nat} (hn : n < 2 ^ 31) (h : x < 0) : ∀ k, k < n → x ≠ nI k := fun k hk e => nI_pos (n := k) (by omega) (e ▸ h)
theorem z_no_ge {x : Int32} {n : Nat} (hn : n < 2 ^ 31) (h : nI n ≤ x) : ∀ k, k < n → x ≠ nI k := fun k hk e => nI_ge hk hn (e ▸ h)
theorem z_ix {x : Int32} {n : Nat} (hn : n < 2 ^ 31) (h0 : ¬ x < 0) (h1 : ¬ nI n ≤ x) : ∃ k, k < n ∧ x = nI k := by
  rcases pk_ix x hn with h | h | h
  · exact absurd h h0
  · exact absurd h h1
  · exact h
theorem z_lt32 {x y : Int32} : ¬ y ≤ x ↔ x < y := by
  rw [Int32.not_le]
theorem z_in_nI {k n : Nat} (h : k < n) (hn : n < 2 ^ 31 := by decide) : vp_in (nI k) n := vp_in_nI h hn
theorem z_cl {k : Nat} (h : k < 2 ^ 31) : (nI k).toNatClampNeg = k := nI_clamp h
theorem z_upd_s {f : Nat → Int32} {k : Nat} {v : Int32} : upd f k v k = v := pk_us
theorem z_upd_n {f : Nat → Int32} {k j : Nat} {v : Int32} (h : j ≠ k) : upd f k v j = f j := pk_un h
theorem z_up_at (σ : z_Sto) (c k c' k' : Nat) (v : Int32) : z_up σ c k v c' k' = if c' = c then (if k' = k then v else σ c' k') else σ c' k' := by
  unfold z_up
  by_cases h : c' = c
  · subst h
    simp [upd]
  · simp [h]
section ZN
variable {lay : z_Lay} {mi : z_MI} {pc : Nat} {L : z_Loc} {st : List Value} {σ : z_Sto} {Φ : z_Post}
theorem z_iaddN {x y : Nat} (hd : decode mi.2.1 pc = .ok (.iadd, 1)) (k : z_R lay mi (pc + 1) L (.int (nI (x + y)) :: st) σ Φ) : z_R lay mi pc L (.int (nI y) :: .int (nI x) :: st) σ Φ := z_iadd hd (by rw [nI_add]; exact k)
theorem z_imulN {x y : Nat} (hd : decode mi.2.1 pc = .ok (.imul, 1)) (k : z_R lay mi (pc + 1) L (.int (nI (x * y)) :: st) σ Φ) : z_R lay mi pc L (.int (nI y) :: .int (nI x) :: st) σ Φ := z_imul hd (by rw [pk_mul]; exact k)
theorem z_ialdN {c n k : Nat} (hd : decode mi.2.1 pc = .ok (.iaload, 1)) (hc : c < lay.1) (hl : lay.2 c = .inl (false, n)) (hn : n < 2 ^ 31) (hk : k < n) (kk : z_R lay mi (pc + 1) L (.int (σ c k) :: st) σ Φ) : z_R lay mi pc L (.int (nI k) :: .ref c :: st) σ Φ := z_iald hd hc hl (vp_in_nI hk hn) (by rw [nI_clamp (Nat.lt_trans hk hn)]; exact kk)
theorem z_zaldN {c n k : Nat} (hd : decode mi.2.1 pc = .ok (.baload, 1)) (hc : c < lay.1) (hl : lay.2 c = .inl (true, n)) (hn : n < 2 ^ 31) (hk : k < n) (kk : z_R lay mi (pc + 1) L (.int (σ c k) :: st) σ Φ) : z_R lay mi pc L (.int (nI k) :: .ref c :: st) σ Φ := z_zald hd hc hl (vp_in_nI hk hn) (by rw [nI_clamp (Nat.lt_trans hk hn)]; exact kk)
theorem z_iastN {c n k : Nat} {x : Int32} (hd : decode mi.2.1 pc = .ok (.iastore, 1)) (hc : c < lay.1) (hl : lay.2 c = .inl (false, n)) (hn : n < 2 ^ 31) (hk : k < n) (kk : z_R lay mi (pc + 1) L st (z_up σ c k x) Φ) : z_R lay mi pc L (.int x :: .int (nI k) :: .ref c :: st) σ Φ := z_iast hd hc hl (vp_in_nI hk hn) (by rw [nI_clamp (Nat.lt_trans hk hn)]; exact kk)
theorem z_zastN {c n k : Nat} {x : Int32} (hd : decode mi.2.1 pc = .ok (.bastore, 1)) (hc : c < lay.1) (hl : lay.2 c = .inl (true, n)) (hn : n < 2 ^ 31) (hk : k < n) (hx : x = nI 0 ∨ x = nI 1) (kk : z_R lay mi (pc + 1) L st (z_up σ c k x) Φ) : z_R lay mi pc L (.int x :: .int (nI k) :: .ref c :: st) σ Φ := z_zast hd hc hl (vp_in_nI hk hn) hx (by rw [nI_clamp (Nat.lt_trans hk hn)]; exact kk)
theorem z_iincN {L' : z_Loc} {i x : Nat} (hd : decode mi.2.1 pc = .ok (.iinc i 1, 3)) (hx : L[i]? = some (some (.int (nI x)))) (hn : i < mi.2.2.1) (h2 : z_ok1 L i = true) (hL' : L.set i (some (.int (nI (x + 1)))) = L') (kk : z_R lay mi (pc + 3) L' st σ Φ) : z_R lay mi pc L st σ Φ := z_iinc hd hx hn h2 (by rw [show (Int32.ofInt 1) = 1 by decide, nI_1]; exact hL') kk
end ZN
theorem z_nar {x : Int32} (h : x = nI 0 ∨ x = nI 1) : narrow .boolean (.int x) = .int x := by rcases h with rfl | rfl <;> decide
theorem z_nI_inj {a b : Nat} (ha : a < 2 ^ 31) (hb : b < 2 ^ 31) (h : nI a = nI b) : a = b := (nI_eq ha hb).mp h
theorem z_b01 {x : Int32} (h : x = nI 0 ∨ x = nI 1) (h0 : ¬ x = 0) : x = nI 1 := by
  rcases h with rfl | rfl
  · exact absurd rfl h0
  · rfl
theorem z_0 : (0 : Int32) = nI 0 := rfl
