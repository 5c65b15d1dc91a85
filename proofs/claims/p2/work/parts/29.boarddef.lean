/-! what the Board's methods do to the cells: b the board's cell, v the cell of its rules' numbers -/
def x_fst (s : Nat) : Nat := if s < 12 then s else 0
def x_end (s n : Nat) : Nat := if s < 12 then (if s + 1 < n then s + 1 else n) else n
def x_sn (b s i : Nat) (σ : z_Sto) : Int32 := if σ (b + 5) i = 0 then nI 0 else if σ (b + 4) s = 0 then nI 1 else nI 0
def x_l1 (b s i : Nat) (σ : z_Sto) : z_Sto := if σ 5 i = nI s ∧ ¬ x_sn b s i σ = σ (b + 6) i then z_up (z_up σ (b + 6) i (x_sn b s i σ)) (b + 7) i (σ (b + 7) i + nI 1) else σ
def x_lk (b s : Nat) : Nat → Nat → z_Sto → z_Sto
  | 0, _, σ => σ
  | f + 1, i, σ => x_lk b s f (i + 1) (x_l1 b s i σ)
def x_look (b s n : Nat) (σ : z_Sto) : z_Sto := x_lk b s (x_end s n - x_fst s) (x_fst s) σ
def x_pen (b v s : Nat) (t : Int32) (σ : z_Sto) : Int32 := x_fade (σ (b + 1) s) (t - σ (b + 2) s) (σ v 3)
def x_r1 (b v s : Nat) (t : Int32) (σ : z_Sto) : z_Sto := z_up (z_up σ (b + 1) s (x_pen b v s t σ)) (b + 2) s t
def x_rp (b v : Nat) (t : Int32) : Nat → Nat → z_Sto → z_Sto
  | 0, _, σ => σ
  | f + 1, s, σ => x_rp b v t f (s + 1) (x_r1 b v s t σ)
def x_opn (b v s : Nat) (t : Int32) (σ : z_Sto) : Int32 := if t + nI 1 < σ (b + 2) s + x_ttb (σ (b + 1) s) (σ v 5) (σ v 3) then σ (b + 2) s + x_ttb (σ (b + 1) s) (σ v 5) (σ v 3) else t + nI 1
def x_wgt (b v i w : Nat) (t : Int32) (σ : z_Sto) : Int32 := if w = 0 ∧ σ 4 i = nI 2 ∧ σ (b + 9) i < t - σ v 7 then nI 0 else σ v w
def x_o1 (b s i : Nat) (k : Int32) (σ : z_Sto) : z_Sto := if ¬ σ (b + 5) i = 0 ∧ σ 5 i = nI s then z_up σ (b + 8) i (σ (b + 8) i + k) else σ
def x_lo (b s : Nat) (k : Int32) : Nat → Nat → z_Sto → z_Sto
  | 0, _, σ => σ
  | f + 1, i, σ => x_lo b s k f (i + 1) (x_o1 b s i k σ)
def x_tsh (to op fr : Int32) : Int32 := (if op - nI 1 < to then op - nI 1 else to) - fr
def x_set (b v s n : Nat) (to : Int32) (σ : z_Sto) : z_Sto :=
  if σ (b + 4) s = 0 ∨ ¬ σ (b + 3) s < to then z_up σ (b + 3) s to
  else x_look b s n (x_lo b s (x_tsh to (x_opn b v s (σ (b + 3) s) (z_up σ (b + 3) s to)) (σ (b + 3) s)) (x_end s n - x_fst s) (x_fst s) (z_up (z_up σ (b + 3) s to) (b + 4) s (if x_opn b v s (σ (b + 3) s) (z_up σ (b + 3) s to) ≤ to then nI 0 else nI 1)))
def x_sa (b v n : Nat) (to : Int32) : Nat → Nat → z_Sto → z_Sto
  | 0, _, σ => σ
  | f + 1, s, σ => x_sa b v n to f (s + 1) (x_set b v s n to σ)
/-- behind settling: the penalty, its tick, the line's last event -/
def x_t1 (b v s i w : Nat) (t : Int32) (σ : z_Sto) : z_Sto := z_up (z_up (z_up σ (b + 1) s (if x_pen b v s t σ + x_wgt b v i w t σ < σ v 6 then x_pen b v s t σ + x_wgt b v i w t σ else σ v 6)) (b + 2) s t) (b + 9) i t
def x_t2 (b i w : Nat) (σ : z_Sto) : z_Sto := if w = 2 then σ else z_up σ (b + 5) i (if w = 1 then nI 1 else nI 0)
def x_t3 (b v s : Nat) (σ : z_Sto) : z_Sto := if σ (b + 1) s ≤ σ v 4 then σ else z_up (z_up σ (b + 4) s (nI 1)) b 11 (nI 1)
def x_take (b v s i w n : Nat) (t : Int32) (σ : z_Sto) : z_Sto := x_look b s n (x_t3 b v s (x_t2 b i w (x_t1 b v s i w t (x_set b v s n t σ))))
def x_s1 (b s : Nat) (σ : z_Sto) : z_Sto := z_up (z_up (z_up (z_up σ (b + 1) s (nI 0)) (b + 2) s (nI 0)) (b + 3) s (nI 0)) (b + 4) s (nI 0)
def x_ra (b : Nat) : Nat → Nat → z_Sto → z_Sto
  | 0, _, σ => σ
  | f + 1, s, σ => x_ra b f (s + 1) (x_s1 b s σ)
def x_s2 (b i : Nat) (σ : z_Sto) : z_Sto := z_up (z_up (z_up (z_up (z_up σ (b + 5) i (nI 1)) (b + 6) i (nI 1)) (b + 7) i (nI 0)) (b + 8) i (nI 0)) (b + 9) i (-1000000)
def x_rb (b : Nat) : Nat → Nat → z_Sto → z_Sto
  | 0, _, σ => σ
  | f + 1, i, σ => x_rb b f (i + 1) (x_s2 b i σ)
def x_restart (b : Nat) (σ : z_Sto) : z_Sto := x_rb b 12 0 (x_ra b 16 0 (z_up σ b 11 (nI 0)))
/-! what they leave alone -/
def x_away (b c : Nat) : Prop := c < b ∨ b + 9 < c
theorem x_l1_fr {b s i c : Nat} {σ : z_Sto} (h : c ≠ b + 6 ∧ c ≠ b + 7) : x_l1 b s i σ c = σ c := by
  unfold x_l1
  split
  · rw [z_up_ne _ _ _ h.2, z_up_ne _ _ _ h.1]
  · rfl
theorem x_lk_fr {b s c : Nat} (h : c ≠ b + 6 ∧ c ≠ b + 7) : ∀ (f i : Nat) (σ : z_Sto), x_lk b s f i σ c = σ c
  | 0, _, _ => rfl
  | f + 1, i, σ => by rw [x_lk, x_lk_fr h f, x_l1_fr h]
theorem x_look_fr {b s n c : Nat} {σ : z_Sto} (h : c ≠ b + 6 ∧ c ≠ b + 7) : x_look b s n σ c = σ c := x_lk_fr h _ _ _
theorem x_o1_fr {b s i c : Nat} {k : Int32} {σ : z_Sto} (h : c ≠ b + 8) : x_o1 b s i k σ c = σ c := by
  unfold x_o1
  split
  · rw [z_up_ne _ _ _ h]
  · rfl
theorem x_lo_fr {b s c : Nat} {k : Int32} (h : c ≠ b + 8) : ∀ (f i : Nat) (σ : z_Sto), x_lo b s k f i σ c = σ c
  | 0, _, _ => rfl
  | f + 1, i, σ => by rw [x_lo, x_lo_fr h f, x_o1_fr h]
theorem x_set_fr {b v s n c : Nat} {to : Int32} {σ : z_Sto} (h : c ≠ b + 3 ∧ c ≠ b + 4 ∧ c ≠ b + 6 ∧ c ≠ b + 7 ∧ c ≠ b + 8) : x_set b v s n to σ c = σ c := by
  unfold x_set
  split
  · rw [z_up_ne _ _ _ h.1]
  · rw [x_look_fr ⟨h.2.2.1, h.2.2.2.1⟩, x_lo_fr h.2.2.2.2, z_up_ne _ _ _ h.2.1, z_up_ne _ _ _ h.1]
theorem x_sa_fr {b v n c : Nat} {to : Int32} (h : c ≠ b + 3 ∧ c ≠ b + 4 ∧ c ≠ b + 6 ∧ c ≠ b + 7 ∧ c ≠ b + 8) : ∀ (f s : Nat) (σ : z_Sto), x_sa b v n to f s σ c = σ c
  | 0, _, _ => rfl
  | f + 1, s, σ => by rw [x_sa, x_sa_fr h f, x_set_fr h]
theorem x_r1_fr {b v s c : Nat} {t : Int32} {σ : z_Sto} (h : c ≠ b + 1 ∧ c ≠ b + 2) : x_r1 b v s t σ c = σ c := by
  rw [x_r1, z_up_ne _ _ _ h.2, z_up_ne _ _ _ h.1]
theorem x_rp_fr {b v c : Nat} {t : Int32} (h : c ≠ b + 1 ∧ c ≠ b + 2) : ∀ (f s : Nat) (σ : z_Sto), x_rp b v t f s σ c = σ c
  | 0, _, _ => rfl
  | f + 1, s, σ => by rw [x_rp, x_rp_fr h f, x_r1_fr h]
theorem x_take_fr {b v s i w n c : Nat} {t : Int32} {σ : z_Sto} (h : x_away b c) : x_take b v s i w n t σ c = σ c := by
  unfold x_away at h
  have h0 : c ≠ b := by omega
  have h1 : c ≠ b + 1 := by omega
  have h2 : c ≠ b + 2 := by omega
  have h4 : c ≠ b + 4 := by omega
  have h5 : c ≠ b + 5 := by omega
  have h9 : c ≠ b + 9 := by omega
  have e3 : ∀ τ : z_Sto, x_t3 b v s τ c = τ c := fun τ => by
    unfold x_t3
    split
    · rfl
    · rw [z_up_ne _ _ _ h0, z_up_ne _ _ _ h4]
  have e2 : ∀ τ : z_Sto, x_t2 b i w τ c = τ c := fun τ => by
    unfold x_t2
    split
    · rfl
    · rw [z_up_ne _ _ _ h5]
  have e1 : ∀ τ : z_Sto, x_t1 b v s i w t τ c = τ c := fun τ => by
    rw [x_t1, z_up_ne _ _ _ h9, z_up_ne _ _ _ h2, z_up_ne _ _ _ h1]
  rw [x_take, x_look_fr (by omega), e3, e2, e1, x_set_fr (by omega)]
theorem x_ra_fr {b c : Nat} (h : x_away b c) : ∀ (f s : Nat) (σ : z_Sto), x_ra b f s σ c = σ c
  | 0, _, _ => rfl
  | f + 1, s, σ => by
    unfold x_away at h
    rw [x_ra, x_ra_fr h f, x_s1, z_up_ne _ _ _ (by omega), z_up_ne _ _ _ (by omega), z_up_ne _ _ _ (by omega), z_up_ne _ _ _ (by omega)]
theorem x_rb_fr {b c : Nat} (h : x_away b c) : ∀ (f s : Nat) (σ : z_Sto), x_rb b f s σ c = σ c
  | 0, _, _ => rfl
  | f + 1, s, σ => by
    unfold x_away at h
    rw [x_rb, x_rb_fr h f, x_s2, z_up_ne _ _ _ (by omega), z_up_ne _ _ _ (by omega), z_up_ne _ _ _ (by omega), z_up_ne _ _ _ (by omega), z_up_ne _ _ _ (by omega)]
theorem x_restart_fr {b c : Nat} {σ : z_Sto} (h : x_away b c) : x_restart b σ c = σ c := by
  have h' := h
  unfold x_away at h'
  rw [x_restart, x_rb_fr h, x_ra_fr h, z_up_ne _ _ _ (by omega)]
theorem x_set_go {b v s n : Nat} {to : Int32} {σ : z_Sto} (h1 : ¬ σ (b + 4) s = 0) (h2 : σ (b + 3) s < to) (w : Int32) (hw : (if x_opn b v s (σ (b + 3) s) (z_up σ (b + 3) s to) ≤ to then nI 0 else nI 1) = w) :
    x_set b v s n to σ = x_look b s n (x_lo b s (x_tsh to (x_opn b v s (σ (b + 3) s) (z_up σ (b + 3) s to)) (σ (b + 3) s)) (x_end s n - x_fst s) (x_fst s) (z_up (z_up σ (b + 3) s to) (b + 4) s w)) := by
  subst hw
  unfold x_set
  exact if_neg (fun q => q.elim h1 (fun q => q h2))
