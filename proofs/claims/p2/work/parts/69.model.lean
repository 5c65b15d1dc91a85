/-! the reference: the net -/
theorem z_nI_m1 {x : Nat} (h : x < 2 ^ 31) : ¬ nI x = -1 := fun e => by
  have := nI_pos h
  rw [e] at this
  exact this (by decide)
def m_told (μ : z_Sto) (T : Nat → List Nat) : Prop := ∀ x, x < 25 → m_row μ 23 22 x (T x)
def m_ownr (μ : z_Sto) (O : Nat → List Nat) : Prop := ∀ a, a < 5 → m_row μ 25 24 a (O a)
theorem m_row_fr {τ μ : z_Sto} {cl cr x : Nat} {l : List Nat} (h : m_row μ cl cr x l) (e1 : τ cl = μ cl) (e2 : τ cr = μ cr) : m_row τ cl cr x l := by
  unfold m_row
  rw [e1, e2]
  exact h
def m_fN (τ μ : z_Sto) : Prop := (∀ c, 1 ≤ c → c ≤ 21 → τ c = μ c) ∧ τ 0 1 = μ 0 1 ∧ τ 0 16 = μ 0 16
theorem m_fN_rf {μ : z_Sto} : m_fN μ μ := ⟨fun _ _ _ => rfl, rfl, rfl⟩
theorem m_fN.tr {a b c : z_Sto} (h : m_fN a b) (g : m_fN b c) : m_fN a c := ⟨fun k h1 h2 => (h.1 k h1 h2).trans (g.1 k h1 h2), h.2.1.trans g.2.1, h.2.2.trans g.2.2⟩
theorem m_fN_up {μ : z_Sto} {c k : Nat} {v : Int32} (h : (c = 0 ∧ k ≠ 1 ∧ k ≠ 16) ∨ 21 < c) : m_fN (z_up μ c k v) μ := by
  refine ⟨fun d h1 h2 => z_up_ne _ _ _ (by omega), ?_, ?_⟩
  · by_cases e : c = 0
    · exact z_up_ix (by omega)
    · rw [z_up_ne _ _ _ (by omega)]
  · by_cases e : c = 0
    · exact z_up_ix (by omega)
    · rw [z_up_ne _ _ _ (by omega)]
theorem m_fN_inv {τ μ : z_Sto} {n e h t : Nat} {T O T' O' : Nat → List Nat} (H : m_inv μ n e h t T O) (f : m_fN τ μ) (hT : m_told τ T') (hO : m_ownr τ O') : m_inv τ n e h t T' O' ∧ m_pub τ μ := by
  obtain ⟨a1, a2, ⟨c1, c2, c3, c4, c5⟩⟩ := H
  refine ⟨⟨m_ok_fr a1 (fun i => by rw [f.1 11 (by decide) (by decide)]; exact a1.2.2.2.2.2.2.2.2.2 i) f.2.1 f.2.2 (fun c hc => f.1 c (by omega) (by omega)), m_num_fr a2 (fun c hc => f.1 c (by omega) (by omega)), by rw [f.1 20 (by decide) (by decide)]; exact c1, by rw [f.1 20 (by decide) (by decide)]; exact c2, hT, hO, by rw [f.1 21 (by decide) (by decide)]; exact c5⟩, f.2.1, f.1 1 (by decide) (by decide), f.1 4 (by decide) (by decide), by rw [f.1 5 (by decide) (by decide)], f.1 20 (by decide) (by decide)⟩
theorem y_get {l : List Nat} {k : Nat} (hl : y_ok l) (hk : k < l.length) : l.getD k 0 < 5 ∧ l[k]? = some (l.getD k 0) := by
  have h1 : l[k]? = some (l.getD k 0) := by
    rw [List.getD_eq_getElem?_getD, List.getElem?_eq_getElem hk]
    rfl
  exact ⟨hl.2 _ (List.mem_of_getElem? h1), h1⟩
set_option maxRecDepth 20000 in
theorem m_hol {μ : z_Sto} {T : Nat → List Nat} {x a k : Nat} (hT : m_told μ T) (hx : x < 25) (ha : a < 5) (hk : k ≤ (T x).length) (hno : ∀ j, j < k → (T x)[j]? ≠ some a) : z_R layM iX7_holds 2 [some (.ref 0), some (.int (nI x)), some (.int (nI a)), some (.int (nI k))] [] μ (fun r μ' => r = some (.int (if a ∈ T x then nI 1 else nI 0)) ∧ μ' = μ) := by
  obtain ⟨r1, r2, r3⟩ := hT x hx
  have h5 := y_len r1
  generalize hf : (T x).length - k = f
  induction f using Nat.strongRecOn generalizing k
  rename_i f ih
  refine z_iload_n (pc := 2) dX7_holds_2 rfl ?_
  refine z_aload_n (pc := 3) dX7_holds_3 rfl ?_
  refine z_getA (pc := 4) f_X7_77 dX7_holds_4 (by decide) rfl rfl ?_
  refine z_iload_n (pc := 7) dX7_holds_7 rfl ?_
  refine z_ialdN (pc := 8) dX7_holds_8 (by decide) rfl (by decide) (hx) ?_
  rw [r2]
  refine z_icmp_ge (pc := 9) (tgt := 34) dX7_holds_9 (by decide) (fun h9 => ?_) (fun h9 => ?_)
  · have q9 : a ∉ T x := fun g => by obtain ⟨j, hj⟩ := List.mem_iff_getElem?.mp g; have := (nI_leI (by omega) (by omega)).mp h9; exact hno j (by have := (List.getElem?_eq_some_iff.mp hj).1; omega) hj
    refine z_iconst (pc := 34) (v := (nI 0)) dX7_holds_34 (by decide) ?_
    exact z_ireturn (pc := 35) dX7_holds_35 rfl (by decide) (⟨by rw [if_neg q9], rfl⟩)
  · have q9 : k < (T x).length := by have : ¬ (T x).length ≤ k := fun q => h9 ((nI_leI (by omega) (by omega)).mpr q); omega
    obtain ⟨y1, y2⟩ := y_get r1 q9
    refine z_aload_n (pc := 12) dX7_holds_12 rfl ?_
    refine z_getA (pc := 13) f_X7_74 dX7_holds_13 (by decide) rfl rfl ?_
    refine z_iconst (pc := 16) (v := (nI 5)) dX7_holds_16 (by decide) ?_
    refine z_iload_n (pc := 17) dX7_holds_17 rfl ?_
    refine z_imulN (pc := 18) dX7_holds_18 ?_
    refine z_iload_n (pc := 19) dX7_holds_19 rfl ?_
    refine z_iaddN (pc := 20) dX7_holds_20 ?_
    refine z_ialdN (pc := 21) dX7_holds_21 (by decide) rfl (by decide) (by omega) ?_
    rw [r3 k q9]
    refine z_iload_n (pc := 22) dX7_holds_22 rfl ?_
    refine z_icmp_ne (pc := 23) (tgt := 28) dX7_holds_23 (by decide) (fun h23 => ?_) (fun h23 => ?_)
    · have q23 : (T x)[k]? ≠ some a := fun g => h23 (by rw [y2] at g; rw [Option.some.inj g])
      refine z_iincN (pc := 28) dX7_holds_28 rfl (by decide) rfl rfl ?_
      refine z_goto (pc := 31) (tgt := 2) dX7_holds_31 (by decide) ?_
      exact ih _ (by omega) (k := k + 1) (by omega) (fun j hj => by rcases Nat.lt_or_ge j k with g | g; exact hno j g; rw [show j = k by omega]; exact q23) rfl
    · have q23 : (T x)[k]? = some a := by rw [y2, z_nI_inj (by omega) (by omega) h23]
      refine z_iconst (pc := 26) (v := (nI 1)) dX7_holds_26 (by decide) ?_
      exact z_ireturn (pc := 27) dX7_holds_27 rfl (by decide) (⟨by rw [if_pos (List.mem_of_getElem? q23)], rfl⟩)
set_option maxRecDepth 20000 in
theorem m_holds {μ : z_Sto} {T : Nat → List Nat} {x a : Nat} (hT : m_told μ T) (hx : x < 25) (ha : a < 5) : z_R layM iX7_holds 0 [some (.ref 0), some (.int (nI x)), some (.int (nI a)), none] [] μ (fun r μ' => r = some (.int (if a ∈ T x then nI 1 else nI 0)) ∧ μ' = μ) := by
  refine z_iconst (pc := 0) (v := (nI 0)) dX7_holds_0 (by decide) ?_
  refine z_istore_n (pc := 1) dX7_holds_1 (by decide) rfl rfl ?_
  exact m_hol (k := 0) hT hx ha (by omega) (fun j hj => absurd hj (by omega))
/-- what was found: its length in field 30, its houses in cell 27 -/
def m_fnd (μ : z_Sto) (l : List Nat) : Prop := y_ok l ∧ μ 0 30 = nI l.length ∧ ∀ k, k < l.length → μ 27 k = nI (l.getD k 0)
def m_fF (τ μ : z_Sto) : Prop := (∀ c, c ≠ 0 → c ≠ 27 → τ c = μ c) ∧ (∀ k, k ≠ 30 → τ 0 k = μ 0 k)
theorem m_fF_rf {μ : z_Sto} : m_fF μ μ := ⟨fun _ _ _ => rfl, fun _ _ => rfl⟩
theorem m_fF.tr {a b c : z_Sto} (h : m_fF a b) (g : m_fF b c) : m_fF a c := ⟨fun k h1 h2 => (h.1 k h1 h2).trans (g.1 k h1 h2), fun k h1 => (h.2 k h1).trans (g.2 k h1)⟩
theorem m_fF_27 {μ : z_Sto} {k : Nat} {v : Int32} : m_fF (z_up μ 27 k v) μ := ⟨fun c _ h2 => z_up_ne _ _ _ h2, fun k _ => by rw [z_up_ne _ _ _ (by decide)]⟩
theorem m_fF_30 {μ : z_Sto} {v : Int32} : m_fF (z_up μ 0 30 v) μ := ⟨fun c h1 _ => z_up_ne _ _ _ h1, fun k hk => z_up_ix hk⟩
theorem m_told_F {τ μ : z_Sto} {T : Nat → List Nat} (h : m_told μ T) (f : m_fF τ μ) : m_told τ T := fun x hx => m_row_fr (h x hx) (f.1 23 (by decide) (by decide)) (f.1 22 (by decide) (by decide))
set_option maxRecDepth 20000 in
theorem m_fo114 {μ μ0 : z_Sto} {T : Nat → List Nat} {x a k : Nat} {cut : Int32} {v5 : Option Value} (hT : m_told μ T) (hx : x < 25) (hl : (T x).length ≤ 4) (hk : k ≤ (T x).length) (hok : y_ok (a :: T x)) (h0 : μ 27 0 = nI a) (hp : ∀ j, j < k → μ 27 (j + 1) = nI ((T x).getD j 0)) (F : m_fF μ μ0) : z_R layM iX7_findOwn 114 [some (.ref 0), some (.int (nI a)), some (.int cut), some (.int (nI x)), some (.int (nI k)), v5] [] μ (fun r μ' => r = none ∧ m_fnd μ' (a :: T x) ∧ m_fF μ' μ0) := by
  generalize hf : (T x).length - k = f
  induction f using Nat.strongRecOn generalizing k μ
  rename_i f ih
  obtain ⟨r1, r2, r3⟩ := hT x hx
  refine z_iload (pc := 114) dX7_findOwn_114 rfl ?_
  refine z_aload_n (pc := 116) dX7_findOwn_116 rfl ?_
  refine z_getA (pc := 117) f_X7_77 dX7_findOwn_117 (by decide) rfl rfl ?_
  refine z_iload_n (pc := 120) dX7_findOwn_120 rfl ?_
  refine z_ialdN (pc := 121) dX7_findOwn_121 (by decide) rfl (by decide) (hx) ?_
  rw [r2]
  refine z_icmp_ge (pc := 122) (tgt := 151) dX7_findOwn_122 (by decide) (fun h122 => ?_) (fun h122 => ?_)
  · have q122 : k = (T x).length := by have := (nI_leI (by omega) (by omega)).mp h122; omega
    refine z_aload_n (pc := 151) dX7_findOwn_151 rfl ?_
    refine z_aload_n (pc := 152) dX7_findOwn_152 rfl ?_
    refine z_getA (pc := 153) f_X7_77 dX7_findOwn_153 (by decide) rfl rfl ?_
    refine z_iload_n (pc := 156) dX7_findOwn_156 rfl ?_
    refine z_ialdN (pc := 157) dX7_findOwn_157 (by decide) rfl (by decide) (hx) ?_
    rw [r2]
    refine z_iconst (pc := 158) (v := (nI 1)) dX7_findOwn_158 (by decide) ?_
    refine z_iaddN (pc := 159) dX7_findOwn_159 ?_
    refine z_putI (pc := 160) f_X7_199 tyX7_ok nmX7 (by decide) rfl rfl rfl dX7_findOwn_160 (by decide) rfl rfl ?_
    exact z_return (pc := 163) dX7_findOwn_163 rfl (⟨rfl, ⟨hok, by rw [z_up_same, z_upd_s]; rfl, fun j hj => by rw [z_up_ne _ _ _ (by decide)]; cases j with | zero => exact h0 | succ i => rw [hp i (by rw [q122]; simpa using hj)]; rfl⟩, m_fF_30.tr F⟩)
  · have q122 : k < (T x).length := by have : ¬ (T x).length ≤ k := fun q => h122 ((nI_leI (by omega) (by omega)).mpr q); omega
    refine z_aload_n (pc := 125) dX7_findOwn_125 rfl ?_
    refine z_getA (pc := 126) f_X7_89 dX7_findOwn_126 (by decide) rfl rfl ?_
    refine z_iload (pc := 129) dX7_findOwn_129 rfl ?_
    refine z_iconst (pc := 131) (v := (nI 1)) dX7_findOwn_131 (by decide) ?_
    refine z_iaddN (pc := 132) dX7_findOwn_132 ?_
    refine z_aload_n (pc := 133) dX7_findOwn_133 rfl ?_
    refine z_getA (pc := 134) f_X7_74 dX7_findOwn_134 (by decide) rfl rfl ?_
    refine z_iconst (pc := 137) (v := (nI 5)) dX7_findOwn_137 (by decide) ?_
    refine z_iload_n (pc := 138) dX7_findOwn_138 rfl ?_
    refine z_imulN (pc := 139) dX7_findOwn_139 ?_
    refine z_iload (pc := 140) dX7_findOwn_140 rfl ?_
    refine z_iaddN (pc := 142) dX7_findOwn_142 ?_
    refine z_ialdN (pc := 143) dX7_findOwn_143 (by decide) rfl (by decide) (by omega) ?_
    rw [r3 k q122]
    refine z_iastN (pc := 144) dX7_findOwn_144 (by decide) rfl (by decide) (by omega) ?_
    refine z_iincN (pc := 145) dX7_findOwn_145 rfl (by decide) rfl rfl ?_
    refine z_goto (pc := 148) (tgt := 114) dX7_findOwn_148 (by decide) ?_
    exact ih _ (by omega) (k := k + 1) (m_told_F hT m_fF_27) (by omega) (by rw [z_up_ix (by omega)]; exact h0) (fun j hj => by rw [z_up_same]; by_cases q : j = k; subst q; rw [z_upd_s]; rw [z_upd_n (by omega)]; exact hp j (by omega)) (m_fF_27.tr F) rfl
set_option maxRecDepth 20000 in
theorem m_fo99 {μ μ0 : z_Sto} {T : Nat → List Nat} {a : Nat} {b : List Nat} {cut best : Int32} {v4 v5 : Option Value} (hT : m_told μ T) (ha : a < 5) (hb : y_ok b ∧ a ∉ b) (hbb : (best = -1 ∧ b = []) ∨ ∃ x, x < 25 ∧ best = nI x ∧ b = T x ∧ b ≠ []) (h30 : μ 0 30 = nI 0) (F : m_fF μ μ0) : z_R layM iX7_findOwn 99 [some (.ref 0), some (.int (nI a)), some (.int cut), some (.int best), v4, v5] [] μ (fun r μ' => r = none ∧ m_fnd μ' (y_put a b) ∧ m_fF μ' μ0) := by
  refine z_iload_n (pc := 99) dX7_findOwn_99 rfl ?_
  refine z_iconst (pc := 100) (v := (-1)) dX7_findOwn_100 (by decide) ?_
  refine z_icmp_eq (pc := 101) (tgt := 163) dX7_findOwn_101 (by decide) (fun h101 => ?_) (fun h101 => ?_)
  · have q101 : b = [] := by (rcases hbb with ⟨_, q⟩ | ⟨x, hx, q, _⟩; exact q; exact absurd (q.symm.trans h101) (z_nI_m1 (by omega)))
    subst q101
    exact z_return (pc := 163) dX7_findOwn_163 rfl (⟨rfl, ⟨y_ok_nil, h30, fun k hk => absurd hk (by simp [y_put])⟩, F⟩)
  · obtain ⟨x, hx, rfl, eb, hne⟩ : ∃ x, x < 25 ∧ best = nI x ∧ b = T x ∧ b ≠ [] := hbb.resolve_left (fun q => h101 q.1)
    subst eb
    have hok : y_ok (a :: T x) := ⟨List.nodup_cons.mpr ⟨hb.2, hb.1.1⟩, fun z hz => by rcases List.mem_cons.mp hz with rfl | hz; exact ha; exact hb.1.2 z hz⟩
    have hlen : (T x).length ≤ 4 := by have := y_len hok; simpa using this
    refine z_aload_n (pc := 104) dX7_findOwn_104 rfl ?_
    refine z_getA (pc := 105) f_X7_89 dX7_findOwn_105 (by decide) rfl rfl ?_
    refine z_iconst (pc := 108) (v := (nI 0)) dX7_findOwn_108 (by decide) ?_
    refine z_iload_n (pc := 109) dX7_findOwn_109 rfl ?_
    refine z_iastN (pc := 110) dX7_findOwn_110 (by decide) rfl (by decide) (by decide) ?_
    refine z_iconst (pc := 111) (v := (nI 0)) dX7_findOwn_111 (by decide) ?_
    refine z_istore (pc := 112) dX7_findOwn_112 (by decide) rfl rfl ?_
    exact (m_fo114 (k := 0) (m_told_F hT m_fF_27) hx hlen (by omega) hok (by rw [z_up_same, z_upd_s]) (fun j hj => absurd hj (by omega)) (m_fF_27.tr F)).mono (fun r μ' u => by rw [y_put, if_neg hne]; exact u)
set_option maxRecDepth 20000 in
theorem m_fo35 {μ μ0 : z_Sto} {T : Nat → List Nat} {a i : Nat} {b : List Nat} {cut best : Int32} {v5 : Option Value} (hT : m_told μ T) (ha : a < 5) (hi : i ≤ 5) (hb : y_ok b ∧ a ∉ b) (hbb : (best = -1 ∧ b = []) ∨ ∃ x, x < 25 ∧ best = nI x ∧ b = T x ∧ b ≠ []) (h30 : μ 0 30 = nI 0) (F : m_fF μ μ0) : z_R layM iX7_findOwn 35 [some (.ref 0), some (.int (nI a)), some (.int cut), some (.int best), some (.int (nI i)), v5] [] μ (fun r μ' => r = none ∧ m_fnd μ' (y_put a (y_best T a (5 - i) i b)) ∧ m_fF μ' μ0) := by
  have hg : y_good T := fun p hp => (hT p hp).1
  generalize hf : 5 - i = f
  induction f using Nat.strongRecOn generalizing i b best v5
  rename_i f ih
  refine z_iload (pc := 35) dX7_findOwn_35 rfl ?_
  refine z_iconst (pc := 37) (v := (nI 5)) dX7_findOwn_37 (by decide) ?_
  refine z_icmp_ge (pc := 38) (tgt := 99) dX7_findOwn_38 (by decide) (fun h38 => ?_) (fun h38 => ?_)
  · have q38 : f = 0 := by have := (nI_leI (by decide) (by omega)).mp h38; omega
    exact (m_fo99 hT ha hb hbb h30 F).mono (fun r μ' u => by rw [q38]; exact u)
  · have q38 : i < 5 := by have : ¬ 5 ≤ i := fun q => h38 ((nI_leI (by decide) (by omega)).mpr q); omega
    have hf1 : f = (5 - (i + 1)) + 1 := by omega
    have hx : a * 5 + i < 25 := by omega
    have hb' := y_b1_ok hg ha q38 hb
    obtain ⟨r1, r2, r3⟩ := hT (a * 5 + i) hx
    have h5 := y_len r1
    refine z_iconst (pc := 41) (v := (nI 5)) dX7_findOwn_41 (by decide) ?_
    refine z_iload_n (pc := 42) dX7_findOwn_42 rfl ?_
    refine z_imulN (pc := 43) dX7_findOwn_43 ?_
    refine z_iload (pc := 44) dX7_findOwn_44 rfl ?_
    refine z_iaddN (pc := 46) dX7_findOwn_46 ?_
    rw [show 5 * a + i = a * 5 + i by omega]
    refine z_istore (pc := 47) dX7_findOwn_47 (by decide) rfl rfl ?_
    refine z_aload_n (pc := 49) dX7_findOwn_49 rfl ?_
    refine z_getA (pc := 50) f_X7_77 dX7_findOwn_50 (by decide) rfl rfl ?_
    refine z_iload (pc := 53) dX7_findOwn_53 rfl ?_
    refine z_ialdN (pc := 55) dX7_findOwn_55 (by decide) rfl (by decide) (hx) ?_
    rw [r2]
    refine z_if_le (pc := 56) (tgt := 93) dX7_findOwn_56 (by decide) (fun h56 => ?_) (fun h56 => ?_)
    · have q56 : T (a * 5 + i) = [] := by (cases hc : T (a * 5 + i) with | nil => rfl | cons u v => exact absurd h56 (by rw [hc] at h5 ⊢; exact nI_nle (by simp) (by omega)))
      have e1 : y_b1 T a i b = b := by rw [y_b1, if_pos (Or.inl q56)]
      have hbb' := hbb
      refine z_iincN (pc := 93) dX7_findOwn_93 rfl (by decide) rfl rfl ?_
      refine z_goto (pc := 96) (tgt := 35) dX7_findOwn_96 (by decide) ?_
      exact (ih _ (by omega) (i := i + 1) (b := y_b1 T a i b) (by omega) hb' (by rw [e1]; exact hbb') rfl).mono (fun r μ' u => by rw [hf1, y_best]; exact u)
    · have q56 : ¬ T (a * 5 + i) = [] := fun q => h56 (by rw [q]; decide)
      refine z_aload_n (pc := 59) dX7_findOwn_59 rfl ?_
      refine z_iload (pc := 60) dX7_findOwn_60 rfl ?_
      refine z_iload_n (pc := 62) dX7_findOwn_62 rfl ?_
      refine z_cV2 (pc := 63) mX7_holds l_X7_202 (by decide) dX7_findOwn_63 (by decide) rfl rfl (by decide) (Nat.le_of_ble_eq_true rfl) (m_holds hT hx ha) rfl (fun r63 σ63 hr63 => ?_)
      obtain ⟨rfl, rfl⟩ := hr63
      refine z_if_ne (pc := 66) (tgt := 93) dX7_findOwn_66 (by decide) (fun h66 => ?_) (fun h66 => ?_)
      · have q66 : a ∈ T (a * 5 + i) := by (by_cases g : a ∈ T (a * 5 + i); exact g; exact absurd (by rw [if_neg g]; rfl) h66)
        have e1 : y_b1 T a i b = b := by rw [y_b1, if_pos (Or.inr q66)]
        have hbb' := hbb
        refine z_iincN (pc := 93) dX7_findOwn_93 rfl (by decide) rfl rfl ?_
        refine z_goto (pc := 96) (tgt := 35) dX7_findOwn_96 (by decide) ?_
        exact (ih _ (by omega) (i := i + 1) (b := y_b1 T a i b) (by omega) hb' (by rw [e1]; exact hbb') rfl).mono (fun r μ' u => by rw [hf1, y_best]; exact u)
      · have q66 : a ∉ T (a * 5 + i) := fun g => absurd (by rw [if_pos g] at h66; exact h66) (by decide)
        have q3 : ¬ (T (a * 5 + i) = [] ∨ a ∈ T (a * 5 + i)) := fun g => g.elim q56 q66
        refine z_iload_n (pc := 69) dX7_findOwn_69 rfl ?_
        refine z_iconst (pc := 70) (v := (-1)) dX7_findOwn_70 (by decide) ?_
        refine z_icmp_eq (pc := 71) (tgt := 90) dX7_findOwn_71 (by decide) (fun h71 => ?_) (fun h71 => ?_)
        · have q71 : b = [] := by (rcases hbb with ⟨_, q⟩ | ⟨x, hx, q, _⟩; exact q; exact absurd (q.symm.trans h71) (z_nI_m1 (by omega)))
          have e1 : y_b1 T a i b = T (a * 5 + i) := by rw [y_b1, if_neg q3, if_pos (Or.inl q71)]
          have hbb' : (nI (a * 5 + i) = -1 ∧ T (a * 5 + i) = []) ∨ ∃ x, x < 25 ∧ nI (a * 5 + i) = nI x ∧ T (a * 5 + i) = T x ∧ T (a * 5 + i) ≠ [] := Or.inr ⟨_, hx, rfl, rfl, q56⟩
          refine z_iload (pc := 90) dX7_findOwn_90 rfl ?_
          refine z_istore_n (pc := 92) dX7_findOwn_92 (by decide) rfl rfl ?_
          refine z_iincN (pc := 93) dX7_findOwn_93 rfl (by decide) rfl rfl ?_
          refine z_goto (pc := 96) (tgt := 35) dX7_findOwn_96 (by decide) ?_
          exact (ih _ (by omega) (i := i + 1) (b := y_b1 T a i b) (by omega) hb' (by rw [e1]; exact hbb') rfl).mono (fun r μ' u => by rw [hf1, y_best]; exact u)
        · obtain ⟨x, hx2, rfl, eb, hne⟩ : ∃ x, x < 25 ∧ best = nI x ∧ b = T x ∧ b ≠ [] := hbb.resolve_left (fun q => h71 q.1)
          obtain ⟨s1, s2, s3⟩ := hT x hx2
          have h6 := y_len s1
          refine z_aload_n (pc := 74) dX7_findOwn_74 rfl ?_
          refine z_getA (pc := 75) f_X7_77 dX7_findOwn_75 (by decide) rfl rfl ?_
          refine z_iload (pc := 78) dX7_findOwn_78 rfl ?_
          refine z_ialdN (pc := 80) dX7_findOwn_80 (by decide) rfl (by decide) (hx) ?_
          rw [r2]
          refine z_aload_n (pc := 81) dX7_findOwn_81 rfl ?_
          refine z_getA (pc := 82) f_X7_77 dX7_findOwn_82 (by decide) rfl rfl ?_
          refine z_iload_n (pc := 85) dX7_findOwn_85 rfl ?_
          refine z_ialdN (pc := 86) dX7_findOwn_86 (by decide) rfl (by decide) (hx2) ?_
          rw [s2]
          refine z_icmp_ge (pc := 87) (tgt := 93) dX7_findOwn_87 (by decide) (fun h87 => ?_) (fun h87 => ?_)
          · have q87 : ¬ (T (a * 5 + i)).length < b.length := by have := (nI_leI (by omega) (by omega)).mp h87; rw [eb]; omega
            have e1 : y_b1 T a i b = b := by rw [y_b1, if_neg q3, if_neg (fun g => g.elim hne q87)]
            have hbb' : (nI x = -1 ∧ b = []) ∨ ∃ y, y < 25 ∧ nI x = nI y ∧ b = T y ∧ b ≠ [] := Or.inr ⟨x, hx2, rfl, eb, hne⟩
            refine z_iincN (pc := 93) dX7_findOwn_93 rfl (by decide) rfl rfl ?_
            refine z_goto (pc := 96) (tgt := 35) dX7_findOwn_96 (by decide) ?_
            exact (ih _ (by omega) (i := i + 1) (b := y_b1 T a i b) (by omega) hb' (by rw [e1]; exact hbb') rfl).mono (fun r μ' u => by rw [hf1, y_best]; exact u)
          · have q87 : (T (a * 5 + i)).length < b.length := by have : ¬ (T x).length ≤ (T (a * 5 + i)).length := fun q => h87 ((nI_leI (by omega) (by omega)).mpr q); rw [eb]; omega
            have e1 : y_b1 T a i b = T (a * 5 + i) := by rw [y_b1, if_neg q3, if_pos (Or.inr q87)]
            have hbb' : (nI (a * 5 + i) = -1 ∧ T (a * 5 + i) = []) ∨ ∃ x, x < 25 ∧ nI (a * 5 + i) = nI x ∧ T (a * 5 + i) = T x ∧ T (a * 5 + i) ≠ [] := Or.inr ⟨_, hx, rfl, rfl, q56⟩
            refine z_iload (pc := 90) dX7_findOwn_90 rfl ?_
            refine z_istore_n (pc := 92) dX7_findOwn_92 (by decide) rfl rfl ?_
            refine z_iincN (pc := 93) dX7_findOwn_93 rfl (by decide) rfl rfl ?_
            refine z_goto (pc := 96) (tgt := 35) dX7_findOwn_96 (by decide) ?_
            exact (ih _ (by omega) (i := i + 1) (b := y_b1 T a i b) (by omega) hb' (by rw [e1]; exact hbb') rfl).mono (fun r μ' u => by rw [hf1, y_best]; exact u)
set_option maxRecDepth 20000 in
theorem m_findOwn {μ : z_Sto} {T : Nat → List Nat} {a ct : Nat} (hT : m_told μ T) (ha : a < 5) (hct : ct < 2) : z_R layM iX7_findOwn 0 [some (.ref 0), some (.int (nI a)), some (.int (nI ct)), none, none, none] [] μ (fun r μ' => r = none ∧ m_fnd μ' (y_row (nI ct) T a) ∧ m_fF μ' μ) := by
  refine z_aload_n (pc := 0) dX7_findOwn_0 rfl ?_
  refine z_iconst (pc := 1) (v := (nI 0)) dX7_findOwn_1 (by decide) ?_
  refine z_putI (pc := 2) f_X7_199 tyX7_ok nmX7 (by decide) rfl rfl rfl dX7_findOwn_2 (by decide) rfl rfl ?_
  refine z_iload_n (pc := 5) dX7_findOwn_5 rfl ?_
  refine z_if_ne (pc := 6) (tgt := 30) dX7_findOwn_6 (by decide) (fun h6 => ?_) (fun h6 => ?_)
  · have q6 : ¬ a = 0 := fun q => h6 (by rw [q]; rfl)
    refine z_iconst (pc := 30) (v := (-1)) dX7_findOwn_30 (by decide) ?_
    refine z_istore_n (pc := 31) dX7_findOwn_31 (by decide) rfl rfl ?_
    refine z_iconst (pc := 32) (v := (nI 0)) dX7_findOwn_32 (by decide) ?_
    refine z_istore (pc := 33) dX7_findOwn_33 (by decide) rfl rfl ?_
    exact (m_fo35 (b := []) (i := 0) (m_told_F hT m_fF_30) ha (by decide) ⟨y_ok_nil, fun g => by cases g⟩ (Or.inl ⟨rfl, rfl⟩) (by rw [z_up_same, z_upd_s]) m_fF_30).mono (fun r μ' u => by rw [y_row, if_neg q6]; exact u)
  · have q6 : a = 0 := z_nI_inj (by omega) (by decide) h6
    refine z_aload_n (pc := 9) dX7_findOwn_9 rfl ?_
    refine z_getA (pc := 10) f_X7_89 dX7_findOwn_10 (by decide) rfl rfl ?_
    refine z_iconst (pc := 13) (v := (nI 0)) dX7_findOwn_13 (by decide) ?_
    refine z_iconst (pc := 14) (v := (nI 0)) dX7_findOwn_14 (by decide) ?_
    refine z_iastN (pc := 15) dX7_findOwn_15 (by decide) rfl (by decide) (by decide) ?_
    refine z_aload_n (pc := 16) dX7_findOwn_16 rfl ?_
    refine z_iload_n (pc := 17) dX7_findOwn_17 rfl ?_
    refine z_if_eq (pc := 18) (tgt := 25) dX7_findOwn_18 (by decide) (fun h18 => ?_) (fun h18 => ?_)
    · refine z_iconst (pc := 25) (v := (nI 1)) dX7_findOwn_25 (by decide) ?_
      refine z_putI (pc := 26) f_X7_199 tyX7_ok nmX7 (by decide) rfl rfl rfl dX7_findOwn_26 (by decide) rfl rfl ?_
      exact z_return (pc := 29) dX7_findOwn_29 rfl (⟨rfl, by rw [y_row, if_pos q6]; first | (rw [if_pos h18]; exact ⟨⟨by decide, by decide⟩, by rw [z_up_same, z_upd_s]; rfl, fun k hk => by rw [show k = 0 by simpa using hk, z_up_ne _ _ _ (by decide), z_up_same, z_upd_s]; rfl⟩) | (rw [if_neg h18]; exact ⟨y_ok_nil, by rw [z_up_same, z_upd_s]; rfl, fun k hk => absurd hk (by simp)⟩), m_fF_30.tr (m_fF_27.tr m_fF_30)⟩)
    · refine z_iconst (pc := 21) (v := (nI 0)) dX7_findOwn_21 (by decide) ?_
      refine z_goto (pc := 22) (tgt := 26) dX7_findOwn_22 (by decide) ?_
      refine z_putI (pc := 26) f_X7_199 tyX7_ok nmX7 (by decide) rfl rfl rfl dX7_findOwn_26 (by decide) rfl rfl ?_
      exact z_return (pc := 29) dX7_findOwn_29 rfl (⟨rfl, by rw [y_row, if_pos q6]; first | (rw [if_pos h18]; exact ⟨⟨by decide, by decide⟩, by rw [z_up_same, z_upd_s]; rfl, fun k hk => by rw [show k = 0 by simpa using hk, z_up_ne _ _ _ (by decide), z_up_same, z_upd_s]; rfl⟩) | (rw [if_neg h18]; exact ⟨y_ok_nil, by rw [z_up_same, z_upd_s]; rfl, fun k hk => absurd hk (by simp)⟩), m_fF_30.tr (m_fF_27.tr m_fF_30)⟩)
