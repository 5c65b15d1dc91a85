/-! the reference: line, rule, logs, change, echo, tick, mark, again -/
/-- what most calls leave as it was -/
def m_pub (τ μ : z_Sto) : Prop := τ 0 1 = μ 0 1 ∧ τ 1 = μ 1 ∧ τ 4 = μ 4 ∧ τ 5 0 = μ 5 0 ∧ τ 20 = μ 20
theorem m_pub_rf {μ : z_Sto} : m_pub μ μ := ⟨rfl, rfl, rfl, rfl, rfl⟩
theorem m_pub.tr {a b c : z_Sto} (h : m_pub a b) (g : m_pub b c) : m_pub a c := ⟨h.1.trans g.1, h.2.1.trans g.2.1, h.2.2.1.trans g.2.2.1, h.2.2.2.1.trans g.2.2.2.1, h.2.2.2.2.trans g.2.2.2.2⟩
/-- the rows of the net: list by list -/
def m_row (μ : z_Sto) (cl cr x : Nat) (l : List Nat) : Prop := y_ok l ∧ μ cl x = nI l.length ∧ ∀ k, k < l.length → μ cr (5 * x + k) = nI (l.getD k 0)
def m_net (μ : z_Sto) (n : Nat) (T O : Nat → List Nat) : Prop := (∀ k, k < 25 → μ 20 k = nI 0 ∨ μ 20 k = nI 1) ∧ (∀ a, a < 5 → μ 20 (5 * a + a) = nI 0) ∧ (∀ x, x < 25 → m_row μ 23 22 x (T x)) ∧ (∀ a, a < 5 → m_row μ 25 24 a (O a)) ∧ (∀ p, p < 25 → μ 21 p = -1 ∨ ∃ k, k < n ∧ μ 21 p = nI k)
theorem m_net_fr {τ μ : z_Sto} {n : Nat} {T O : Nat → List Nat} (H : m_net μ n T O) (f : ∀ c, c = 20 ∨ c = 21 ∨ c = 22 ∨ c = 23 ∨ c = 24 ∨ c = 25 → τ c = μ c) : m_net τ n T O := by
  obtain ⟨a1, a2, a3, a4, a5⟩ := H
  refine ⟨by rw [f 20 (by decide)]; exact a1, by rw [f 20 (by decide)]; exact a2, fun x hx => ?_, fun x hx => ?_, by rw [f 21 (by decide)]; exact a5⟩
  · unfold m_row; rw [f 23 (by decide), f 22 (by decide)]; exact a3 x hx
  · unfold m_row; rw [f 25 (by decide), f 24 (by decide)]; exact a4 x hx
def m_inv (μ : z_Sto) (n e h t : Nat) (T O : Nat → List Nat) : Prop := m_ok μ n e h ∧ m_num μ t ∧ m_net μ n T O
theorem m_f1_inv {τ μ : z_Sto} {n e h t : Nat} {T O : Nat → List Nat} (H : m_inv μ n e h t T O) (f : m_f1 τ μ) (hok : m_ok τ n e h) : m_inv τ n e h t T O ∧ m_pub τ μ := by
  obtain ⟨a1, ⟨b1, b2, b3, b4, b5, b6⟩, a3⟩ := H
  refine ⟨⟨hok, ⟨b1, (f.2.1 5 (by decide)).trans b2, fun b hb => ?_, by rw [f.1 1 (by decide)]; exact b4, by rw [f.1 1 (by decide)]; exact b5, by rw [f.1 1 (by decide)]; exact b6⟩, m_net_fr a3 (fun c hc => f.1 c (by omega))⟩, by rw [f.1 0 (by decide)], f.1 1 (by decide), f.1 4 (by decide), f.2.1 5 (by decide), f.1 20 (by decide)⟩
  obtain ⟨p, s, h1, h2, h3, h4⟩ := b3 b hb
  exact ⟨p, s, h1, h2, (f.2.2.1 8 b (by decide) hb).trans h3, (f.2.2.1 9 b (by decide) hb).trans h4⟩
def m_keepP (μ : z_Sto) (n h t : Nat) (r : Option Value) (μ' : z_Sto) : Prop := x_some r ∧ (∃ e T O, m_inv μ' n e h t T O) ∧ m_pub μ' μ
set_option maxRecDepth 20000 in
theorem m_again {μ : z_Sto} {n e h t : Nat} {x s o w : Int32} {T O : Nat → List Nat} (H : m_inv μ n e h t T O) : z_R layM iX7_again 0 [some (.ref 0), some (.int x), some (.int s), some (.int o), some (.int w)] [] μ (m_keepP μ n h t) := by
  have h12 := H.1.2.1
  refine z_aload_n (pc := 0) dX7_again_0 rfl ?_
  refine z_iload_n (pc := 1) dX7_again_1 rfl ?_
  refine z_cV1 (pc := 2) mX7_isLine l_X7_154 (by decide) dX7_again_2 (by decide) rfl rfl (by decide) (Nat.le_of_ble_eq_true rfl) (m_isLine H.1.1 H.1.2.1) rfl (fun r2 σ2 hr2 => ?_)
  obtain ⟨v2, rfl, g1, g2, rfl⟩ := hr2
  refine z_if_eq (pc := 5) (tgt := 38) dX7_again_5 (by decide) (fun h5 => ?_) (fun h5 => ?_)
  · refine z_bipush (pc := 38) (v := (-2)) dX7_again_38 (by decide) ?_
    exact z_ireturn (pc := 40) dX7_again_40 rfl rfl (⟨⟨_, rfl⟩, ⟨_, _, _, H⟩, m_pub_rf⟩)
  · obtain ⟨l, hl, rfl⟩ := g1 h5
    refine z_iload_n (pc := 8) dX7_again_8 rfl ?_
    refine z_iconst (pc := 9) (v := (nI 1)) dX7_again_9 (by decide) ?_
    refine z_sipush (pc := 10) (v := (nI 20000)) dX7_again_10 (by decide) ?_
    refine z_cS3 (pc := 13) mX7_in l_X7_124 (by decide) dX7_again_13 (by decide) (Nat.le_of_ble_eq_true rfl) (m_in) rfl (fun r13 σ13 hr13 => ?_)
    obtain ⟨v13, rfl, g3, g4, rfl⟩ := hr13
    refine z_if_eq (pc := 16) (tgt := 38) dX7_again_16 (by decide) (fun h16 => ?_) (fun h16 => ?_)
    · refine z_bipush (pc := 38) (v := (-2)) dX7_again_38 (by decide) ?_
      exact z_ireturn (pc := 40) dX7_again_40 rfl rfl (⟨⟨_, rfl⟩, ⟨_, _, _, H⟩, m_pub_rf⟩)
    · refine z_iload_n (pc := 19) dX7_again_19 rfl ?_
      refine z_iconst (pc := 20) (v := (nI 1)) dX7_again_20 (by decide) ?_
      refine z_iload_n (pc := 21) dX7_again_21 rfl ?_
      refine z_cS3 (pc := 22) mX7_in l_X7_124 (by decide) dX7_again_22 (by decide) (Nat.le_of_ble_eq_true rfl) (m_in) rfl (fun r22 σ22 hr22 => ?_)
      obtain ⟨v22, rfl, g5, g6, rfl⟩ := hr22
      refine z_if_eq (pc := 25) (tgt := 38) dX7_again_25 (by decide) (fun h25 => ?_) (fun h25 => ?_)
      · refine z_bipush (pc := 38) (v := (-2)) dX7_again_38 (by decide) ?_
        exact z_ireturn (pc := 40) dX7_again_40 rfl rfl (⟨⟨_, rfl⟩, ⟨_, _, _, H⟩, m_pub_rf⟩)
      · refine z_iload (pc := 28) dX7_again_28 rfl ?_
        refine z_iconst (pc := 30) (v := (nI 0)) dX7_again_30 (by decide) ?_
        refine z_iconst (pc := 31) (v := (nI 1)) dX7_again_31 (by decide) ?_
        refine z_cS3 (pc := 32) mX7_in l_X7_124 (by decide) dX7_again_32 (by decide) (Nat.le_of_ble_eq_true rfl) (m_in) rfl (fun r32 σ32 hr32 => ?_)
        obtain ⟨v32, rfl, g7, g8, rfl⟩ := hr32
        refine z_if_ne (pc := 35) (tgt := 41) dX7_again_35 (by decide) (fun h35 => ?_) (fun h35 => ?_)
        · refine z_aload_n (pc := 41) dX7_again_41 rfl ?_
          refine z_iload_n (pc := 42) dX7_again_42 rfl ?_
          refine z_iload_n (pc := 43) dX7_again_43 rfl ?_
          refine z_cV2 (pc := 44) mX7_goesOver l_X7_177 (by decide) dX7_again_44 (by decide) rfl rfl (by decide) (Nat.le_of_ble_eq_true rfl) (m_goesOver H.1 H.2.1.1 H.2.1.2.1) rfl (fun r44 σ44 hr44 => ?_)
          obtain ⟨rfl, f44, k44⟩ := hr44
          have HH := m_f1_inv H f44 k44
          refine z_iload (pc := 47) dX7_again_47 rfl ?_
          refine z_if_ne (pc := 49) (tgt := 64) dX7_again_49 (by decide) (fun h49 => ?_) (fun h49 => ?_)
          · refine z_aload_n (pc := 64) dX7_again_64 rfl ?_
            refine z_getA (pc := 65) f_X7_50 dX7_again_65 (by decide) rfl rfl ?_
            refine z_bipush (pc := 68) (v := (nI 12)) dX7_again_68 (by decide) ?_
            refine z_iload_n (pc := 70) dX7_again_70 rfl ?_
            refine z_iaddN (pc := 71) dX7_again_71 ?_
            refine z_ialdN (pc := 72) dX7_again_72 (by decide) rfl (by decide) (by omega) ?_
            exact z_ireturn (pc := 73) dX7_again_73 rfl rfl (⟨⟨_, rfl⟩, ⟨_, _, _, HH.1⟩, HH.2⟩)
          · refine z_aload_n (pc := 52) dX7_again_52 rfl ?_
            refine z_getA (pc := 53) f_X7_47 dX7_again_53 (by decide) rfl rfl ?_
            refine z_bipush (pc := 56) (v := (nI 12)) dX7_again_56 (by decide) ?_
            refine z_iload_n (pc := 58) dX7_again_58 rfl ?_
            refine z_iaddN (pc := 59) dX7_again_59 ?_
            refine z_ialdN (pc := 60) dX7_again_60 (by decide) rfl (by decide) (by omega) ?_
            refine z_goto (pc := 61) (tgt := 73) dX7_again_61 (by decide) ?_
            exact z_ireturn (pc := 73) dX7_again_73 rfl rfl (⟨⟨_, rfl⟩, ⟨_, _, _, HH.1⟩, HH.2⟩)
        · refine z_bipush (pc := 38) (v := (-2)) dX7_again_38 (by decide) ?_
          exact z_ireturn (pc := 40) dX7_again_40 rfl rfl (⟨⟨_, rfl⟩, ⟨_, _, _, H⟩, m_pub_rf⟩)
theorem m_b0 {μ : z_Sto} {l : Nat} : 16 * 0 + m_b μ l = m_b μ l := by omega
/-- an event in the first world keeps the numbers within their bounds -/
theorem m_hp_num {μ : z_Sto} {n e h t l k : Nat} (H : m_ok μ n e h) (N : m_num μ t) (hl : l < n) (hk : k < 3) : m_num (m_hp 0 l k n μ) t := by
  have h12 := H.2.1
  have hbl := m_b_lt (H.2.2.2.2.1 l hl) (by omega)
  obtain ⟨b1, b2, b3, b4, b5, b6⟩ := N
  obtain ⟨c, hc1, hc2, hc⟩ := b5
  obtain ⟨v, hv, ev⟩ := b6 k hk
  obtain ⟨p, s, hp, hs, ep, es⟩ := b3 _ hbl
  have hh := H.2.2.2.2.2.2.1
  have hpen : m_pen 0 l μ = nI (fadeN p (t - s) h) := by rw [m_pen, m_b0, ep, es, b2, hh, pk_sub hs, m_fade_n hp (by omega) H.2.2.2.2.2.2.2.1 H.2.2.2.2.2.2.2.2.1]
  have hfl : fadeN p (t - s) h ≤ p := fadeN_le
  have hw : ∃ u, u ≤ 10000 ∧ m_wgt 0 l k μ = nI u := by
    unfold m_wgt
    split
    · exact ⟨0, by omega, rfl⟩
    · exact ⟨v, hv, ev⟩
  obtain ⟨u, hu, eu⟩ := hw
  refine ⟨b1, by rw [m_hp_fr (by decide)]; exact b2, fun b hb => ?_, by rw [m_hp_fr (by decide)]; exact b4, ⟨c, hc1, hc2, by rw [m_hp_fr (by decide)]; exact hc⟩, by rw [m_hp_fr (by decide)]; exact b6⟩
  have e8 : m_hp 0 l k n μ 8 = upd (μ 8) (16 * 0 + m_b μ l) (if m_pen 0 l μ + m_wgt 0 l k μ ≤ μ 1 6 then m_pen 0 l μ + m_wgt 0 l k μ else μ 1 6) := by
    rw [m_hp, m_lk_fr (by decide), m_h4, z_up_ne _ _ _ (by decide), m_h3, z_up_ne _ _ _ (by decide), z_up_ne _ _ _ (by decide), z_up_ne _ _ _ (by decide), z_up_same]
  have e9 : m_hp 0 l k n μ 9 = upd (μ 9) (16 * 0 + m_b μ l) (μ 5 0) := by
    rw [m_hp, m_lk_fr (by decide), m_h4, z_up_ne _ _ _ (by decide), m_h3, z_up_ne _ _ _ (by decide), z_up_ne _ _ _ (by decide), z_up_same, z_up_ne _ _ _ (by decide)]
  rw [e8, e9, m_b0]
  by_cases q : b = m_b μ l
  · subst q
    rw [z_upd_s, z_upd_s, hpen, eu, nI_add, hc, b2]
    by_cases g : fadeN p (t - s) h + u ≤ c
    · exact ⟨_, t, by omega, Nat.le_refl t, if_pos (nI_le g (by omega)), rfl⟩
    · exact ⟨c, t, hc2, Nat.le_refl t, if_neg (fun g2 => g ((nI_leI (by omega) (by omega)).mp g2)), rfl⟩
  · rw [z_upd_n q, z_upd_n q]
    exact b3 b hb
def m_lg (e l k : Nat) (μ : z_Sto) : z_Sto := z_up (z_up (z_up (z_up μ 16 e (nI l)) 17 e (nI k)) 18 e (μ 5 0)) 0 16 (nI (e + 1))
theorem m_lg_fr {e l k c : Nat} {μ : z_Sto} (h : c ≠ 0 ∧ c ≠ 16 ∧ c ≠ 17 ∧ c ≠ 18) : m_lg e l k μ c = μ c := by
  rw [m_lg, z_up_ne _ _ _ h.1, z_up_ne _ _ _ h.2.2.2, z_up_ne _ _ _ h.2.2.1, z_up_ne _ _ _ h.2.1]
theorem m_lg_ok {μ : z_Sto} {n e h t l k : Nat} (H : m_ok μ n e h) (N : m_num μ t) (hl : l < n) (hk : k < 3) (he : e < 300) : m_ok (m_lg e l k μ) n (e + 1) h := by
  obtain ⟨a1, a2, a3, a4, a5, a6, a7, a8, a9, a10⟩ := H
  refine ⟨by simp [m_lg, z_up_at, a1], a2, by simp [m_lg, z_up_at], by omega, m_bs_fr a5 (m_lg_fr (by decide)) (m_lg_fr (by decide)), ?_, by rw [m_lg_fr (by decide)]; exact a7, a8, a9, fun i => by rw [m_lg_fr (by decide)]; exact a10 i⟩
  intro j hj
  by_cases q : j = e
  · subst q
    exact ⟨l, k, t, hl, hk, N.1, by simp [m_lg, z_up_at], by simp [m_lg, z_up_at], by simp [m_lg, z_up_at, N.2.1]⟩
  · obtain ⟨l', k', t', h1, h2, h3, h4, h5, h6⟩ := a6 j (by omega)
    exact ⟨l', k', t', h1, h2, h3, by simp [m_lg, z_up_at, q, h4], by simp [m_lg, z_up_at, q, h5], by simp [m_lg, z_up_at, q, h6]⟩
theorem m_num_fr {τ μ : z_Sto} {t : Nat} (N : m_num μ t) (f : ∀ c, c = 1 ∨ c = 5 ∨ c = 8 ∨ c = 9 → τ c = μ c) : m_num τ t := by
  obtain ⟨b1, b2, b3, b4, b5, b6⟩ := N
  exact ⟨b1, by rw [f 5 (by decide)]; exact b2, by rw [f 8 (by decide), f 9 (by decide)]; exact b3, by rw [f 1 (by decide)]; exact b4, by rw [f 1 (by decide)]; exact b5, by rw [f 1 (by decide)]; exact b6⟩
def m_ev (n e l k : Nat) (μ : z_Sto) : z_Sto := m_hp 0 l k n (m_lg e l k μ)
theorem m_ev_inv {μ : z_Sto} {n e h t l k : Nat} {T O : Nat → List Nat} (H : m_inv μ n e h t T O) (hl : l < n) (hk : k < 3) (he : e < 300) : m_inv (m_ev n e l k μ) n (e + 1) h t T O ∧ m_pub (m_ev n e l k μ) μ := by
  have H1 := m_lg_ok H.1 H.2.1 hl hk he
  have N1 : m_num (m_lg e l k μ) t := m_num_fr H.2.1 (fun c hc => m_lg_fr (by omega))
  refine ⟨⟨m_ok_fr H1 (m_hp_up H1.2.2.2.2.2.2.2.2.2) (by rw [m_ev, m_hp_fr (by decide)]) (by rw [m_ev, m_hp_fr (by decide)]) (fun c hc => m_hp_fr (by omega)), m_hp_num H1 N1 hl hk, m_net_fr H.2.2 (fun c hc => by rw [m_ev, m_hp_fr (by omega), m_lg_fr (by omega)])⟩, ?_, ?_, ?_, ?_, ?_⟩
  · rw [m_ev, m_hp_fr (by decide)]; simp [m_lg, z_up_at]
  · rw [m_ev, m_hp_fr (by decide), m_lg_fr (by decide)]
  · rw [m_ev, m_hp_fr (by decide), m_lg_fr (by decide)]
  · rw [m_ev, m_hp_fr (by decide), m_lg_fr (by decide)]
  · rw [m_ev, m_hp_fr (by decide), m_lg_fr (by decide)]
set_option maxRecDepth 20000 in
theorem m_logs {μ : z_Sto} {n e h t l k : Nat} {T O : Nat → List Nat} (H : m_inv μ n e h t T O) (hl : l < n) (hk : k < 3) (he : e < 300) : z_R layM iX7_logs 0 [some (.ref 0), some (.int (nI l)), some (.int (nI k))] [] μ (fun r μ' => r = none ∧ μ' = m_ev n e l k μ) := by
  have H1 := m_lg_ok H.1 H.2.1 hl hk he
  refine z_aload_n (pc := 0) dX7_logs_0 rfl ?_
  refine z_getA (pc := 1) f_X7_56 dX7_logs_1 (by decide) rfl rfl ?_
  refine z_aload_n (pc := 4) dX7_logs_4 rfl ?_
  refine z_getI (pc := 5) f_X7_147 dX7_logs_5 (by decide) rfl rfl ?_
  rw [H.1.2.2.1]
  refine z_iload_n (pc := 8) dX7_logs_8 rfl ?_
  refine z_iastN (pc := 9) dX7_logs_9 (by decide) rfl (by decide) (he) ?_
  refine z_aload_n (pc := 10) dX7_logs_10 rfl ?_
  refine z_getA (pc := 11) f_X7_59 dX7_logs_11 (by decide) rfl rfl ?_
  refine z_aload_n (pc := 14) dX7_logs_14 rfl ?_
  refine z_getI (pc := 15) f_X7_147 dX7_logs_15 (by decide) rfl rfl ?_
  simp only [z_up_at, reduceIte, Nat.reduceEqDiff, H.1.2.2.1]
  refine z_iload_n (pc := 18) dX7_logs_18 rfl ?_
  refine z_iastN (pc := 19) dX7_logs_19 (by decide) rfl (by decide) (he) ?_
  refine z_aload_n (pc := 20) dX7_logs_20 rfl ?_
  refine z_getA (pc := 21) f_X7_62 dX7_logs_21 (by decide) rfl rfl ?_
  refine z_aload_n (pc := 24) dX7_logs_24 rfl ?_
  refine z_getI (pc := 25) f_X7_147 dX7_logs_25 (by decide) rfl rfl ?_
  simp only [z_up_at, reduceIte, Nat.reduceEqDiff, H.1.2.2.1]
  refine z_aload_n (pc := 28) dX7_logs_28 rfl ?_
  refine z_getA (pc := 29) f_X7_22 dX7_logs_29 (by decide) rfl rfl ?_
  refine z_iconst (pc := 32) (v := (nI 0)) dX7_logs_32 (by decide) ?_
  refine z_ialdN (pc := 33) dX7_logs_33 (by decide) rfl (by decide) (by decide) ?_
  simp only [z_up_at, reduceIte, Nat.reduceEqDiff]
  refine z_iastN (pc := 34) dX7_logs_34 (by decide) rfl (by decide) (he) ?_
  refine z_aload_n (pc := 35) dX7_logs_35 rfl ?_
  refine z_dup_a (pc := 36) dX7_logs_36 ?_
  refine z_getI (pc := 37) f_X7_147 dX7_logs_37 (by decide) rfl rfl ?_
  simp only [z_up_at, reduceIte, Nat.reduceEqDiff, H.1.2.2.1]
  refine z_iconst (pc := 40) (v := (nI 1)) dX7_logs_40 (by decide) ?_
  refine z_iaddN (pc := 41) dX7_logs_41 ?_
  refine z_putI (pc := 42) f_X7_147 tyX7_ok nmX7 (by decide) rfl rfl rfl dX7_logs_42 (by decide) rfl rfl ?_
  refine z_aload_n (pc := 45) dX7_logs_45 rfl ?_
  refine z_iconst (pc := 46) (v := (nI 0)) dX7_logs_46 (by decide) ?_
  refine z_iload_n (pc := 47) dX7_logs_47 rfl ?_
  refine z_iload_n (pc := 48) dX7_logs_48 rfl ?_
  refine z_cV3 (pc := 49) mX7_happens l_X7_150 (by decide) dX7_logs_49 (by decide) rfl rfl (by decide) (Nat.le_of_ble_eq_true rfl) (m_happens (μ := m_lg e l k μ) (by decide) hk hl H1.1 H1.2.1 H1.2.2.2.2.1 H1.2.2.2.2.2.2.2.2.2 H1.2.2.2.2.2.2.1 H1.2.2.2.2.2.2.2.1 H1.2.2.2.2.2.2.2.2.1) rfl (fun r49 σ49 hr49 => ?_)
  obtain ⟨er49, eσ49⟩ := hr49
  subst er49
  exact z_return (pc := 52) dX7_logs_52 rfl (⟨rfl, eσ49⟩)
set_option maxRecDepth 20000 in
theorem m_echo {μ : z_Sto} {n e h t : Nat} {x : Int32} {T O : Nat → List Nat} (H : m_inv μ n e h t T O) : z_R layM iX7_echo 0 [some (.ref 0), some (.int x)] [] μ (m_keepP μ n h t) := by
  have h12 := H.1.2.1
  have h3 := H.1.2.2.2.1
  refine z_aload_n (pc := 0) dX7_echo_0 rfl ?_
  refine z_iload_n (pc := 1) dX7_echo_1 rfl ?_
  refine z_cV1 (pc := 2) mX7_isLine l_X7_154 (by decide) dX7_echo_2 (by decide) rfl rfl (by decide) (Nat.le_of_ble_eq_true rfl) (m_isLine H.1.1 H.1.2.1) rfl (fun r2 σ2 hr2 => ?_)
  obtain ⟨v2, rfl, g1, g2, rfl⟩ := hr2
  refine z_if_ne (pc := 5) (tgt := 11) dX7_echo_5 (by decide) (fun h5 => ?_) (fun h5 => ?_)
  · obtain ⟨l, hl, rfl⟩ := g1 h5
    refine z_aload_n (pc := 11) dX7_echo_11 rfl ?_
    refine z_getI (pc := 12) f_X7_147 dX7_echo_12 (by decide) rfl rfl ?_
    rw [H.1.2.2.1]
    refine z_sipush (pc := 15) (v := (nI 300)) dX7_echo_15 (by decide) ?_
    refine z_icmp_ne (pc := 18) (tgt := 24) dX7_echo_18 (by decide) (fun h18 => ?_) (fun h18 => ?_)
    · have q18 : e < 300 := by have : e ≠ 300 := fun g => h18 (by rw [g]); omega
      refine z_aload_n (pc := 24) dX7_echo_24 rfl ?_
      refine z_iload_n (pc := 25) dX7_echo_25 rfl ?_
      refine z_iconst (pc := 26) (v := (nI 2)) dX7_echo_26 (by decide) ?_
      refine z_cV2 (pc := 27) mX7_logs l_X7_158 (by decide) dX7_echo_27 (by decide) rfl rfl (by decide) (Nat.le_of_ble_eq_true rfl) (m_logs H hl (by decide) q18) rfl (fun r27 σ27 hr27 => ?_)
      obtain ⟨er27, eσ27⟩ := hr27
      subst er27
      have HH := m_ev_inv (k := 2) H hl (by decide) q18
      rw [← eσ27] at HH
      refine z_aload_n (pc := 30) dX7_echo_30 rfl ?_
      refine z_iconst (pc := 31) (v := (nI 0)) dX7_echo_31 (by decide) ?_
      refine z_iload_n (pc := 32) dX7_echo_32 rfl ?_
      refine z_cV2 (pc := 33) mX7_penaltyNow l_X7_140 (by decide) dX7_echo_33 (by decide) rfl rfl (by decide) (Nat.le_of_ble_eq_true rfl) (m_penaltyNow (by decide) (by omega) (HH.1.1.2.2.2.2.1 l hl) HH.1.1.2.2.2.2.2.2.1 HH.1.1.2.2.2.2.2.2.2.1 HH.1.1.2.2.2.2.2.2.2.2.1) rfl (fun r33 σ33 hr33 => ?_)
      obtain ⟨rfl, rfl⟩ := hr33
      exact z_ireturn (pc := 36) dX7_echo_36 rfl rfl (⟨⟨_, rfl⟩, ⟨_, _, _, HH.1⟩, HH.2⟩)
    · refine z_bipush (pc := 21) (v := (-4)) dX7_echo_21 (by decide) ?_
      exact z_ireturn (pc := 23) dX7_echo_23 rfl rfl (⟨⟨_, rfl⟩, ⟨_, _, _, H⟩, m_pub_rf⟩)
  · refine z_bipush (pc := 8) (v := (-2)) dX7_echo_8 (by decide) ?_
    exact z_ireturn (pc := 10) dX7_echo_10 rfl rfl (⟨⟨_, rfl⟩, ⟨_, _, _, H⟩, m_pub_rf⟩)
set_option maxRecDepth 20000 in
theorem m_change {μ : z_Sto} {n e h t : Nat} {x y : Int32} {T O : Nat → List Nat} (H : m_inv μ n e h t T O) : z_R layM iX7_change 0 [some (.ref 0), some (.int x), some (.int y)] [] μ (m_keepP μ n h t) := by
  have h12 := H.1.2.1
  have h3 := H.1.2.2.2.1
  refine z_aload_n (pc := 0) dX7_change_0 rfl ?_
  refine z_iload_n (pc := 1) dX7_change_1 rfl ?_
  refine z_cV1 (pc := 2) mX7_isLine l_X7_154 (by decide) dX7_change_2 (by decide) rfl rfl (by decide) (Nat.le_of_ble_eq_true rfl) (m_isLine H.1.1 H.1.2.1) rfl (fun r2 σ2 hr2 => ?_)
  obtain ⟨v2, rfl, g1, g2, rfl⟩ := hr2
  refine z_if_ne (pc := 5) (tgt := 11) dX7_change_5 (by decide) (fun h5 => ?_) (fun h5 => ?_)
  · obtain ⟨l, hl, rfl⟩ := g1 h5
    refine z_aload_n (pc := 11) dX7_change_11 rfl ?_
    refine z_getA (pc := 12) f_X7_41 dX7_change_12 (by decide) rfl rfl ?_
    refine z_iload_n (pc := 15) dX7_change_15 rfl ?_
    refine z_zaldN (pc := 16) dX7_change_16 (by decide) rfl (by decide) (by omega) ?_
    refine z_iload_n (pc := 17) dX7_change_17 rfl ?_
    refine z_icmp_ne (pc := 18) (tgt := 24) dX7_change_18 (by decide) (fun h18 => ?_) (fun h18 => ?_)
    · refine z_aload_n (pc := 24) dX7_change_24 rfl ?_
      refine z_getI (pc := 25) f_X7_147 dX7_change_25 (by decide) rfl rfl ?_
      rw [H.1.2.2.1]
      refine z_sipush (pc := 28) (v := (nI 300)) dX7_change_28 (by decide) ?_
      refine z_icmp_ne (pc := 31) (tgt := 37) dX7_change_31 (by decide) (fun h31 => ?_) (fun h31 => ?_)
      · have q18 : e < 300 := by have : e ≠ 300 := fun g => h31 (by rw [g]); omega
        refine z_aload_n (pc := 37) dX7_change_37 rfl ?_
        refine z_iload_n (pc := 38) dX7_change_38 rfl ?_
        refine z_iload_n (pc := 39) dX7_change_39 rfl ?_
        refine z_if_eq (pc := 40) (tgt := 47) dX7_change_40 (by decide) (fun h40 => ?_) (fun h40 => ?_)
        · refine z_iconst (pc := 47) (v := (nI 0)) dX7_change_47 (by decide) ?_
          refine z_cV2 (pc := 48) mX7_logs l_X7_158 (by decide) dX7_change_48 (by decide) rfl rfl (by decide) (Nat.le_of_ble_eq_true rfl) (m_logs H hl (by decide) q18) rfl (fun r48 σ48 hr48 => ?_)
          obtain ⟨er48, eσ48⟩ := hr48
          subst er48
          have HH : m_inv σ48 n (e + 1) h t T O ∧ m_pub σ48 σ2 := by rw [eσ48]; exact m_ev_inv H hl (by decide) q18
          refine z_aload_n (pc := 51) dX7_change_51 rfl ?_
          refine z_iconst (pc := 52) (v := (nI 0)) dX7_change_52 (by decide) ?_
          refine z_iload_n (pc := 53) dX7_change_53 rfl ?_
          refine z_cV2 (pc := 54) mX7_penaltyNow l_X7_140 (by decide) dX7_change_54 (by decide) rfl rfl (by decide) (Nat.le_of_ble_eq_true rfl) (m_penaltyNow (by decide) (by omega) (HH.1.1.2.2.2.2.1 l hl) HH.1.1.2.2.2.2.2.2.1 HH.1.1.2.2.2.2.2.2.2.1 HH.1.1.2.2.2.2.2.2.2.2.1) rfl (fun r54 σ54 hr54 => ?_)
          obtain ⟨rfl, rfl⟩ := hr54
          exact z_ireturn (pc := 57) dX7_change_57 rfl rfl (⟨⟨_, rfl⟩, ⟨_, _, _, HH.1⟩, HH.2⟩)
        · refine z_iconst (pc := 43) (v := (nI 1)) dX7_change_43 (by decide) ?_
          refine z_goto (pc := 44) (tgt := 48) dX7_change_44 (by decide) ?_
          refine z_cV2 (pc := 48) mX7_logs l_X7_158 (by decide) dX7_change_48 (by decide) rfl rfl (by decide) (Nat.le_of_ble_eq_true rfl) (m_logs H hl (by decide) q18) rfl (fun r48 σ48 hr48 => ?_)
          obtain ⟨er48, eσ48⟩ := hr48
          subst er48
          have HH : m_inv σ48 n (e + 1) h t T O ∧ m_pub σ48 σ2 := by rw [eσ48]; exact m_ev_inv H hl (by decide) q18
          refine z_aload_n (pc := 51) dX7_change_51 rfl ?_
          refine z_iconst (pc := 52) (v := (nI 0)) dX7_change_52 (by decide) ?_
          refine z_iload_n (pc := 53) dX7_change_53 rfl ?_
          refine z_cV2 (pc := 54) mX7_penaltyNow l_X7_140 (by decide) dX7_change_54 (by decide) rfl rfl (by decide) (Nat.le_of_ble_eq_true rfl) (m_penaltyNow (by decide) (by omega) (HH.1.1.2.2.2.2.1 l hl) HH.1.1.2.2.2.2.2.2.1 HH.1.1.2.2.2.2.2.2.2.1 HH.1.1.2.2.2.2.2.2.2.2.1) rfl (fun r54 σ54 hr54 => ?_)
          obtain ⟨rfl, rfl⟩ := hr54
          exact z_ireturn (pc := 57) dX7_change_57 rfl rfl (⟨⟨_, rfl⟩, ⟨_, _, _, HH.1⟩, HH.2⟩)
      · refine z_bipush (pc := 34) (v := (-4)) dX7_change_34 (by decide) ?_
        exact z_ireturn (pc := 36) dX7_change_36 rfl rfl (⟨⟨_, rfl⟩, ⟨_, _, _, H⟩, m_pub_rf⟩)
    · refine z_bipush (pc := 21) (v := (-3)) dX7_change_21 (by decide) ?_
      exact z_ireturn (pc := 23) dX7_change_23 rfl rfl (⟨⟨_, rfl⟩, ⟨_, _, _, H⟩, m_pub_rf⟩)
  · refine z_bipush (pc := 8) (v := (-2)) dX7_change_8 (by decide) ?_
    exact z_ireturn (pc := 10) dX7_change_10 rfl rfl (⟨⟨_, rfl⟩, ⟨_, _, _, H⟩, m_pub_rf⟩)
