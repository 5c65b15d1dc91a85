/-! rows of houses as numbers: three bits a house -/
def y_code : List Nat → Nat
  | [] => 0
  | h :: t => (h + 1) + 8 * y_code t
def y_ok (l : List Nat) : Prop := l.Nodup ∧ ∀ x ∈ l, x < 5
theorem y_ok_nil : y_ok [] := ⟨List.nodup_nil, fun x h => by cases h⟩
theorem y_ok_tl {h : Nat} {t : List Nat} (H : y_ok (h :: t)) : y_ok t := ⟨(List.nodup_cons.mp H.1).2, fun x hx => H.2 x (List.mem_cons_of_mem _ hx)⟩
theorem y_nodup_len : ∀ (m : Nat) (l : List Nat), l.Nodup → (∀ x ∈ l, x < m) → l.length ≤ m
  | 0, l, _, h => by
    cases l with
    | nil => simp
    | cons a t => exact absurd (h a List.mem_cons_self) (by omega)
  | m + 1, l, hn, h => by
    have h1 := y_nodup_len m (l.filter (fun x => decide (x ≠ m))) (List.Pairwise.filter _ hn) (fun x hx => by
      have := List.mem_filter.mp hx
      have h2 := h x this.1
      have h3 : x ≠ m := by simpa using this.2
      omega)
    have h2 : l.length ≤ (l.filter (fun x => decide (x ≠ m))).length + 1 := by
      clear h1 h
      induction l with
      | nil => simp
      | cons a t ih =>
        have hn' := List.nodup_cons.mp hn
        by_cases ha : a = m
        · have : t.filter (fun x => decide (x ≠ m)) = t := by
            rw [List.filter_eq_self]
            intro x hx
            have : x ≠ m := fun e => hn'.1 (by rw [ha, ← e]; exact hx)
            simpa using this
          rw [List.filter_cons_of_neg (by simpa using ha), this]
          simp
        · rw [List.filter_cons_of_pos (by simpa using ha)]
          have := ih hn'.2
          simp only [List.length_cons]
          omega
    omega
theorem y_len {l : List Nat} (h : y_ok l) : l.length ≤ 5 := y_nodup_len 5 l h.1 h.2
theorem y_code_lt : ∀ (l : List Nat), (∀ x ∈ l, x < 5) → y_code l < 8 ^ l.length
  | [], _ => by decide
  | h :: t, H => by
    have h1 := y_code_lt t (fun x hx => H x (List.mem_cons_of_mem _ hx))
    have h2 := H h List.mem_cons_self
    rw [y_code, List.length_cons, Nat.pow_succ]
    omega
theorem y_code_b {l : List Nat} (h : y_ok l) : y_code l < 32768 := by
  have h1 := y_code_lt l h.2
  have h2 := y_len h
  have h3 : 8 ^ l.length ≤ 8 ^ 5 := Nat.pow_le_pow_right (by decide) h2
  have h4 : 8 ^ 5 = 32768 := by decide
  omega
theorem y_code_drop : ∀ (k : Nat) (l : List Nat), (∀ x ∈ l, x < 5) → y_code l / 8 ^ k = y_code (l.drop k)
  | 0, l, _ => by simp
  | k + 1, [], _ => by simp [y_code]
  | k + 1, h :: t, H => by
    have h1 := y_code_drop k t (fun x hx => H x (List.mem_cons_of_mem _ hx))
    have h2 := H h List.mem_cons_self
    rw [List.drop_succ_cons, ← h1, Nat.pow_succ, Nat.mul_comm, ← Nat.div_div_eq_div_mul, y_code]
    congr 1
    omega
theorem y_code_0 {l : List Nat} : y_code l = 0 ↔ l = [] := by
  cases l with
  | nil => simp [y_code]
  | cons h t => simp [y_code]
theorem y_code_inj : ∀ (l m : List Nat), (∀ x ∈ l, x < 5) → (∀ x ∈ m, x < 5) → y_code l = y_code m → l = m
  | [], m, _, _, e => by
    have := y_code_0.mp (e.symm.trans rfl)
    exact this.symm
  | h :: t, [], _, _, e => absurd e (by rw [y_code, y_code]; omega)
  | h :: t, g :: u, H, G, e => by
    have h1 := H h List.mem_cons_self
    have h2 := G g List.mem_cons_self
    rw [y_code, y_code] at e
    have h3 : h = g := by omega
    have h4 := y_code_inj t u (fun x hx => H x (List.mem_cons_of_mem _ hx)) (fun x hx => G x (List.mem_cons_of_mem _ hx)) (by omega)
    rw [h3, h4]
theorem y_code_ne {l m : List Nat} (hl : y_ok l) (hm : y_ok m) : nI (y_code l) = nI (y_code m) ↔ l = m := by
  constructor
  · intro e
    exact y_code_inj l m hl.2 hm.2 (z_nI_inj (Nat.lt_trans (y_code_b hl) (by decide)) (Nat.lt_trans (y_code_b hm) (by decide)) e)
  · intro e
    rw [e]
theorem y_mem_drop {l : List Nat} (H : ∀ x ∈ l, x < 5) {h : Nat} (hh : h < 5) (k : Nat) : y_code l / 8 ^ k % 8 = h + 1 ↔ l[k]? = some h := by
  rw [y_code_drop k l H]
  cases hd : l.drop k with
  | nil =>
    have : l.length ≤ k := by
      have := congrArg List.length hd
      simp at this
      omega
    rw [List.getElem?_eq_none this]
    simp [y_code]
  | cons a t =>
    have h1 : l[k]? = some a := by
      have := congrArg (fun m => m[0]?) hd
      simpa using this
    have h2 : a < 5 := H a (List.mem_of_getElem? h1)
    rw [h1, y_code]
    constructor
    · intro e
      have : a = h := by omega
      rw [this]
    · intro e
      have : a = h := Option.some.inj e
      omega
theorem x_shr3 {c k : Nat} (hc : c < 2 ^ 31) (hk : k < 5) : nI c >>> (nI (3 * k) &&& 31) = nI (c / 8 ^ k) := by
  rcases (show k = 0 ∨ k = 1 ∨ k = 2 ∨ k = 3 ∨ k = 4 by omega) with rfl | rfl | rfl | rfl | rfl
  · exact pk_shrN hc _ 0 (by decide)
  · exact pk_shrN hc _ 3 (by decide)
  · exact pk_shrN hc _ 6 (by decide)
  · exact pk_shrN hc _ 9 (by decide)
  · exact pk_shrN hc _ 12 (by decide)
theorem x_and7 {c : Nat} (hc : c < 2 ^ 31) : nI c &&& nI 7 = nI (c % 8) := pk_andN (by omega) 3 (by decide)
theorem x_or8 {c h : Nat} (hh : h < 5) : nI (c * 8) ||| nI (h + 1) = nI ((h + 1) + 8 * c) := by
  have e : nI (c * 8) ||| nI (h + 1) = nI ((c * 8) ||| (h + 1)) := by
    apply Int32.toBitVec_inj.1
    show BitVec.ofNat 32 (c * 8) ||| BitVec.ofNat 32 (h + 1) = BitVec.ofNat 32 ((c * 8) ||| (h + 1))
    apply BitVec.eq_of_getLsbD_eq
    intro i hi
    simp [hi]
  rw [e]
  have := Nat.two_pow_add_eq_or_of_lt (i := 3) (b := h + 1) (by omega) c
  rw [show c * 8 = 2 ^ 3 * c by omega, ← this]
  congr 1
  omega
theorem x_shl8 {c : Nat} (hc : c < 32768) : nI c <<< (nI 3 &&& 31) = nI (c * 8) := pk_shlN _ 3 (by decide) (by omega)
/-! the houses' own rows, and what they send -/
def y_b1 (T : Nat → List Nat) (h i : Nat) (b : List Nat) : List Nat := if T (h * 5 + i) = [] ∨ h ∈ T (h * 5 + i) then b else if b = [] ∨ (T (h * 5 + i)).length < b.length then T (h * 5 + i) else b
def y_best (T : Nat → List Nat) (h : Nat) : Nat → Nat → List Nat → List Nat
  | 0, _, b => b
  | f + 1, i, b => y_best T h f (i + 1) (y_b1 T h i b)
def y_put (h : Nat) (b : List Nat) : List Nat := if b = [] then [] else h :: b
def y_own (T : Nat → List Nat) (h : Nat) : List Nat := y_put h (y_best T h 5 0 [])
def y_good (T : Nat → List Nat) : Prop := ∀ p, p < 25 → y_ok (T p)
theorem y_b1_ok {T : Nat → List Nat} {h i : Nat} {b : List Nat} (hT : y_good T) (hh : h < 5) (hi : i < 5) (hb : y_ok b ∧ h ∉ b) : y_ok (y_b1 T h i b) ∧ h ∉ y_b1 T h i b := by
  unfold y_b1
  split
  · exact hb
  · rename_i q
    split
    · exact ⟨hT _ (by omega), fun g => q (Or.inr g)⟩
    · exact hb
theorem y_best_ok {T : Nat → List Nat} {h : Nat} (hT : y_good T) (hh : h < 5) : ∀ (f i : Nat) (b : List Nat), i + f ≤ 5 → (y_ok b ∧ h ∉ b) → y_ok (y_best T h f i b) ∧ h ∉ y_best T h f i b
  | 0, _, _, _, hb => hb
  | f + 1, i, b, hi, hb => by
    rw [y_best]
    exact y_best_ok hT hh f (i + 1) _ (by omega) (y_b1_ok hT hh (by omega) hb)
theorem y_put_ok {h : Nat} {b : List Nat} (hh : h < 5) (hb : y_ok b ∧ h ∉ b) : y_ok (y_put h b) := by
  unfold y_put
  split
  · exact y_ok_nil
  · refine ⟨List.nodup_cons.mpr ⟨hb.2, hb.1.1⟩, fun x hx => ?_⟩
    rcases List.mem_cons.mp hx with rfl | hx
    · exact hh
    · exact hb.1.2 x hx
theorem y_own_ok {T : Nat → List Nat} {h : Nat} (hT : y_good T) (hh : h < 5) : y_ok (y_own T h) := y_put_ok hh (y_best_ok hT hh 5 0 [] (by decide) ⟨y_ok_nil, fun g => by cases g⟩)
abbrev y_Q : Type := Nat → Nat × List Nat
def y_s1 (wy : Nat → Int32) (h : Nat) (row : List Nat) (i : Nat) (q : y_Q × Nat) : y_Q × Nat := if ¬ wy (h * 5 + i) = 0 ∧ q.2 < 2000 then (va_up q.1 q.2 (i * 5 + h, row), q.2 + 1) else q
def y_send (wy : Nat → Int32) (h : Nat) (row : List Nat) : Nat → Nat → y_Q × Nat → y_Q × Nat
  | 0, _, q => q
  | f + 1, i, q => y_send wy h row f (i + 1) (y_s1 wy h row i q)
def x_que (σ : z_Sto) (q : y_Q × Nat) : Prop := (∀ j, j < q.2 → σ 41 j = nI (y_code (q.1 j).2 * 25 + (q.1 j).1) ∧ (q.1 j).1 < 25 ∧ y_ok (q.1 j).2) ∧ σ 35 6 = nI q.2 ∧ q.2 ≤ 2000
def x_told_ok (σ : z_Sto) (T : Nat → List Nat) : Prop := y_good T ∧ ∀ p, p < 25 → σ 37 p = nI (y_code (T p))
def x_own_ok (σ : z_Sto) (O : Nat → List Nat) : Prop := ∀ h, h < 5 → y_ok (O h) ∧ σ 39 h = nI (y_code (O h))
def x_way_ok (σ : z_Sto) : Prop := ∀ k, k < 25 → σ 36 k = nI 0 ∨ σ 36 k = nI 1
