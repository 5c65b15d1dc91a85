/-! CalmLines: flood, digest -/
set_option maxRecDepth 20000 in
theorem k_fl62 {σ : z_Sto} {c lo : Int32} {came : Nat} {v4 : Option Value} : z_R layX iX6_flood 62 [some (.ref 0), some (.int c), some (.int lo), some (.int (nI came)), v4] [] σ (fun r σ' => x_some r ∧ σ' = σ) := by
  refine z_iload_n (pc := 62) dX6_flood_62 rfl ?_
  refine z_if_eq (pc := 63) (tgt := 71) dX6_flood_63 (by decide) (fun h63 => ?_) (fun h63 => ?_)
  · refine z_iload_n (pc := 71) dX6_flood_71 rfl ?_
    exact z_ireturn (pc := 72) dX6_flood_72 rfl rfl (⟨⟨_, rfl⟩, rfl⟩)
  · refine z_bipush (pc := 66) (v := (-4)) dX6_flood_66 (by decide) ?_
    refine z_goto (pc := 68) (tgt := 72) dX6_flood_68 (by decide) ?_
    exact z_ireturn (pc := 72) dX6_flood_72 rfl rfl (⟨⟨_, rfl⟩, rfl⟩)
theorem x_net_fr {σ τ : z_Sto} {n e h : Nat} {T O T' O' : Nat → List Nat} (H : x_inv σ n e h T O) (hT : x_told_ok τ T') (hO : x_own_ok τ O') (f : ∀ c, c ≠ 35 → c ≠ 37 → c ≠ 39 → c ≠ 40 → c ≠ 41 → τ c = σ c) : x_inv τ n e h T' O' ∧ x_pub τ σ := by
  obtain ⟨a1, a2, a3, a4, a5, a6, a7⟩ := H
  refine ⟨⟨x_ok_fr a1 (fun c hc => f c (by omega) (by omega) (by omega) (by omega) (by omega)), ?_, ⟨fun j => ?_, fun j => ?_⟩, ?_, hT, hO, ?_⟩, f 0 (by decide) (by decide) (by decide) (by decide) (by decide), f 2 (by decide) (by decide) (by decide) (by decide) (by decide), f 3 (by decide) (by decide) (by decide) (by decide) (by decide), f 6 (by decide) (by decide) (by decide) (by decide) (by decide), f 36 (by decide) (by decide) (by decide) (by decide) (by decide)⟩
  · intro i hi; rw [f 5 (by decide) (by decide) (by decide) (by decide) (by decide)]; exact a2 i hi
  · rw [f 16 (by decide) (by decide) (by decide) (by decide) (by decide)]; exact a3.1 j
  · rw [f 15 (by decide) (by decide) (by decide) (by decide) (by decide)]; exact a3.2 j
  · intro k hk; rw [f 36 (by decide) (by decide) (by decide) (by decide) (by decide)]; exact a4 k hk
  · intro k hk; rw [f 38 (by decide) (by decide) (by decide) (by decide) (by decide)]; exact a7 k hk
theorem x_que_fr {σ τ : z_Sto} {q : y_Q × Nat} (h : x_que σ q) (e1 : τ 41 = σ 41) (e2 : τ 35 = σ 35) : x_que τ q := ⟨fun j hj => by rw [e1]; exact h.1 j hj, by rw [e2]; exact h.2.1, h.2.2⟩
theorem y_s1_le {wy : Nat → Int32} {h i : Nat} {row : List Nat} {q : y_Q × Nat} : q.2 ≤ (y_s1 wy h row i q).2 := by
  unfold y_s1
  split
  · show q.2 ≤ q.2 + 1; omega
  · exact Nat.le_refl _
theorem y_send_le {wy : Nat → Int32} {h : Nat} {row : List Nat} : ∀ (f i : Nat) (q : y_Q × Nat), q.2 ≤ (y_send wy h row f i q).2
  | 0, _, _ => Nat.le_refl _
  | f + 1, i, q => by
    rw [y_send]
    exact Nat.le_trans y_s1_le (y_send_le f (i + 1) _)
theorem y_fo_le {cut : Int32} {wy : Nat → Int32} {T : Nat → List Nat} {h : Nat} {s : y_S} : s.2.2 ≤ (y_fo cut wy T h s).2.2 := by
  unfold y_fo
  split
  · exact Nat.le_refl _
  · exact y_send_le _ _ _
theorem y_tk_le {cut : Int32} {wy : Nat → Int32} {p : Nat} {l : List Nat} {T : Nat → List Nat} {s : y_S} : s.2.2 ≤ (y_tk cut wy p l (T, s)).2.2.2 := by
  unfold y_tk
  split
  · exact Nat.le_refl _
  · exact y_fo_le
set_option maxRecDepth 20000 in
theorem k_fll {σ σ0 : z_Sto} {n e h came tk : Nat} {c lo : Int32} {v4 : Option Value} {T : Nat → List Nat} {s : y_S} (H : x_inv σ n e h T s.1) (hp : x_pub σ σ0) (hq : x_que σ s.2) (ht : σ 35 7 = nI tk) (htk : tk ≤ s.2.2) (hc : came ≤ 2000) : z_R layX iX6_flood 12 [some (.ref 0), some (.int c), some (.int lo), some (.int (nI came)), v4] [] σ (x_keepP σ0 n h) := by
  have h12 := H.1.2.1
  generalize hf : 2000 - came = f
  induction f using Nat.strongRecOn generalizing came σ e lo v4 T s tk
  rename_i f ih
  refine z_iload_n (pc := 12) dX6_flood_12 rfl ?_
  refine z_sipush (pc := 13) (v := (nI 2000)) dX6_flood_13 (by decide) ?_
  refine z_icmp_ge (pc := 16) (tgt := 62) dX6_flood_16 (by decide) (fun h16 => ?_) (fun h16 => ?_)
  · exact k_fl62.mono (fun r σ' g => by obtain ⟨u1, rfl⟩ := g; exact ⟨u1, ⟨_, _, _, H⟩, hp⟩)
  · have q16 : came < 2000 := by have : ¬ 2000 ≤ came := fun g => h16 ((nI_leI (by decide) (by omega)).mpr g); omega
    refine z_aload_n (pc := 19) dX6_flood_19 rfl ?_
    refine z_getA (pc := 20) f_X6_51 dX6_flood_20 (by decide) rfl rfl ?_
    refine z_cV0 (pc := 23) mX2_hasLetter l_X6_192 (by decide) dX6_flood_23 (by decide) rfl rfl (by decide) (Nat.le_of_ble_eq_true rfl) (c_X2_hasLetter ht hq.2.1 hq.2.2 htk) rfl (fun r23 σ23 hr23 => ?_)
    obtain ⟨rfl, rfl⟩ := hr23
    refine z_if_eq (pc := 26) (tgt := 62) dX6_flood_26 (by decide) (fun h26 => ?_) (fun h26 => ?_)
    · exact k_fl62.mono (fun r σ' g => by obtain ⟨u1, rfl⟩ := g; exact ⟨u1, ⟨_, _, _, H⟩, hp⟩)
    · have q26 : tk < s.2.2 := by (by_cases g : tk < s.2.2; exact g; exact absurd (by rw [if_neg g]; rfl) h26)
      obtain ⟨p, l, hpl⟩ : ∃ p l, s.2.1 tk = (p, l) := ⟨_, _, rfl⟩
      refine z_aload_n (pc := 29) dX6_flood_29 rfl ?_
      refine z_getA (pc := 30) f_X6_51 dX6_flood_30 (by decide) rfl rfl ?_
      refine z_cV0 (pc := 33) mX2_takeLetter l_X6_195 (by decide) dX6_flood_33 (by decide) rfl rfl (by decide) (Nat.le_of_ble_eq_true rfl) (c_X2_takeLetter H.2.2.2.1 H.2.2.2.2.1 H.2.2.2.2.2.1 hq ht q26 hpl) rfl (fun r33 σ33 hr33 => ?_)
      obtain ⟨er33, g1, g2, g3, g4, g5, g6, g7, g8⟩ := hr33
      obtain ⟨v33, ev33⟩ : ∃ v, v = (if T p = l then (-1 : Int32) else σ23 38 p) := ⟨_, rfl⟩
      rw [← ev33] at er33
      subst er33
      have HH := x_net_fr H g1 g2 g7
      have hp25 : p < 25 := by have := (hq.1 tk q26).2.1; rw [hpl] at this; exact this
      have htk' : tk + 1 ≤ (y_tk (σ23 35 10) (σ23 36) p l (T, s)).2.2.2 := Nat.le_trans q26 y_tk_le
      refine z_istore (pc := 36) dX6_flood_36 (by decide) rfl rfl ?_
      refine z_iload (pc := 38) dX6_flood_38 rfl ?_
      refine z_iconst (pc := 40) (v := (-1)) dX6_flood_40 (by decide) ?_
      refine z_icmp_eq (pc := 41) (tgt := 56) dX6_flood_41 (by decide) (fun h41 => ?_) (fun h41 => ?_)
      · refine z_iincN (pc := 56) dX6_flood_56 rfl (by decide) rfl rfl ?_
        refine z_goto (pc := 59) (tgt := 12) dX6_flood_59 (by decide) ?_
        exact by first | exact ih _ (by omega) (came := came + 1) (tk := tk + 1) k1 (k2.tr (HH.2.tr hp)) (x_que_fr g3 k3 k4) (by rw [k4]; exact g4) htk' (by omega) rfl | exact ih _ (by omega) (came := came + 1) (tk := tk + 1) HH.1 (HH.2.tr hp) g3 g4 htk' (by omega) rfl
      · have q41 : ∃ k, k < n ∧ v33 = nI k := by (by_cases g : T p = l; exact absurd (by rw [ev33, if_pos g]) h41; rw [if_neg g] at ev33; rcases H.2.2.2.2.2.2 p hp25 with q | q; exact absurd (ev33.trans q) h41; rw [ev33]; exact q)
        obtain ⟨k, hk, rfl⟩ := q41
        obtain ⟨sl, hsl, hsl2⟩ := HH.1.2.1 k hk
        refine z_aload_n (pc := 44) dX6_flood_44 rfl ?_
        refine z_iload (pc := 45) dX6_flood_45 rfl ?_
        refine z_iconst (pc := 47) (v := (nI 2)) dX6_flood_47 (by decide) ?_
        refine z_cV2 (pc := 48) mX6_happen l_X6_100 (by decide) dX6_flood_48 (by decide) rfl rfl (by decide) (Nat.le_of_ble_eq_true rfl) ((c_X6_happen HH.1 hk (by decide) hsl hsl2).mono (Ψ := fun r σ' => ∃ v e', r = some (.int v) ∧ x_inv σ' n e' h (y_tk (σ23 35 10) (σ23 36) p l (T, s)).1 (y_tk (σ23 35 10) (σ23 36) p l (T, s)).2.1 ∧ x_pub σ' σ33 ∧ σ' 41 = σ33 41 ∧ σ' 35 = σ33 35) (fun r σ' g => by rcases g with ⟨u1, rfl, rfl⟩ | ⟨u1, rfl, rfl⟩; exact ⟨_, _, rfl, (x_hap_inv HH.1 hk (by decide) u1 hsl hsl2).1, (x_hap_inv HH.1 hk (by decide) u1 hsl hsl2).2, x_hap_fr (by decide), x_hap_fr (by decide)⟩; exact ⟨_, _, rfl, HH.1, x_pub_rf, rfl, rfl⟩)) rfl (fun r48 σ48 hr48 => ?_)
        obtain ⟨v48, e', rfl, k1, k2, k3, k4⟩ := hr48
        refine z_if_ne (pc := 51) (tgt := 56) dX6_flood_51 (by decide) (fun h51 => ?_) (fun h51 => ?_)
        · refine z_iincN (pc := 56) dX6_flood_56 rfl (by decide) rfl rfl ?_
          refine z_goto (pc := 59) (tgt := 12) dX6_flood_59 (by decide) ?_
          exact by first | exact ih _ (by omega) (came := came + 1) (tk := tk + 1) k1 (k2.tr (HH.2.tr hp)) (x_que_fr g3 k3 k4) (by rw [k4]; exact g4) htk' (by omega) rfl | exact ih _ (by omega) (came := came + 1) (tk := tk + 1) HH.1 (HH.2.tr hp) g3 g4 htk' (by omega) rfl
        · refine z_iconst (pc := 54) (v := (nI 1)) dX6_flood_54 (by decide) ?_
          refine z_istore_n (pc := 55) dX6_flood_55 (by decide) rfl rfl ?_
          refine z_iincN (pc := 56) dX6_flood_56 rfl (by decide) rfl rfl ?_
          refine z_goto (pc := 59) (tgt := 12) dX6_flood_59 (by decide) ?_
          exact by first | exact ih _ (by omega) (came := came + 1) (tk := tk + 1) k1 (k2.tr (HH.2.tr hp)) (x_que_fr g3 k3 k4) (by rw [k4]; exact g4) htk' (by omega) rfl | exact ih _ (by omega) (came := came + 1) (tk := tk + 1) HH.1 (HH.2.tr hp) g3 g4 htk' (by omega) rfl
set_option maxRecDepth 20000 in
theorem k_flood {σ : z_Sto} {n e h ct : Nat} {T O : Nat → List Nat} (H : x_inv σ n e h T O) (hct : ct < 2) : z_R layX iX6_flood 0 [some (.ref 0), some (.int (nI ct)), none, none, none] [] σ (x_keepP σ n h) := by
  refine z_iconst (pc := 0) (v := (nI 0)) dX6_flood_0 (by decide) ?_
  refine z_istore_n (pc := 1) dX6_flood_1 (by decide) rfl rfl ?_
  refine z_iconst (pc := 2) (v := (nI 0)) dX6_flood_2 (by decide) ?_
  refine z_istore_n (pc := 3) dX6_flood_3 (by decide) rfl rfl ?_
  refine z_aload_n (pc := 4) dX6_flood_4 rfl ?_
  refine z_getA (pc := 5) f_X6_51 dX6_flood_5 (by decide) rfl rfl ?_
  refine z_iload_n (pc := 8) dX6_flood_8 rfl ?_
  refine z_cV1 (pc := 9) mX2_startFlood l_X6_188 (by decide) dX6_flood_9 (by decide) rfl rfl (by decide) (Nat.le_of_ble_eq_true rfl) (c_X2_startFlood (Q := fun _ => (0, [])) hct H.2.2.2.1 H.2.2.2.2.1 H.2.2.2.2.2.1) rfl (fun r9 σ9 hr9 => ?_)
  obtain ⟨rfl, ⟨g1, g2⟩, g3, g4, g5, g6, g7⟩ := hr9
  have HH := x_net_fr (T' := T) H (x_told_fr H.2.2.2.2.1 (g3 37 (by decide) (by decide) (by decide) (by decide))) g1 (fun c a1 a2 a3 a4 a5 => g3 c a5 a1 a3 a4)
  exact k_fll (came := 0) (tk := 0) HH.1 HH.2 g2 g5 (Nat.zero_le _) (by decide)
set_option maxRecDepth 20000 in
theorem k_dg139 {σ : z_Sto} {a k : Nat} {d : Int64} {v2 : Option Value} {Φ : z_Post} (ha : a < 5) (hk : k ≤ 5) (K : ∀ d' w4, z_R layX iX6_digest 183 [some (.ref 0), some (.long d'), none, some (.int (nI a)), w4] [] σ Φ) : z_R layX iX6_digest 139 [some (.ref 0), some (.long d), none, some (.int (nI a)), some (.int (nI k))] [] σ Φ := by
  generalize hf : 5 - k = f
  induction f using Nat.strongRecOn generalizing k d
  rename_i f ih
  refine z_iload (pc := 139) dX6_digest_139 rfl ?_
  refine z_iconst (pc := 141) (v := (nI 5)) dX6_digest_141 (by decide) ?_
  refine z_icmp_ge (pc := 142) (tgt := 183) dX6_digest_142 (by decide) (fun h142 => ?_) (fun h142 => ?_)
  · exact K _ _
  · have q142 : k < 5 := by have : ¬ 5 ≤ k := fun g => h142 ((nI_leI (by decide) (by omega)).mpr g); omega
    refine z_aload_n (pc := 145) dX6_digest_145 rfl ?_
    refine z_getA (pc := 146) f_X6_51 dX6_digest_146 (by decide) rfl rfl ?_
    refine z_iload_n (pc := 149) dX6_digest_149 rfl ?_
    refine z_iload (pc := 150) dX6_digest_150 rfl ?_
    refine z_cV2 (pc := 152) mX2_ownAt l_X6_198 (by decide) dX6_digest_152 (by decide) rfl rfl (by decide) (Nat.le_of_ble_eq_true rfl) (c_X2_ownAt ha) rfl (fun r152 σ152 hr152 => ?_)
    obtain ⟨rfl, rfl⟩ := hr152
    refine z_iconst (pc := 155) (v := (-1)) dX6_digest_155 (by decide) ?_
    refine z_icmp_eq (pc := 156) (tgt := 183) dX6_digest_156 (by decide) (fun h156 => ?_) (fun h156 => ?_)
    · exact K _ _
    · refine z_ldc2 (pc := 159) k_X6_216 dX6_digest_159 ?_
      refine z_lload_n (pc := 162) dX6_digest_162 rfl ?_
      refine z_lmul (pc := 163) dX6_digest_163 ?_
      refine z_aload_n (pc := 164) dX6_digest_164 rfl ?_
      refine z_getA (pc := 165) f_X6_51 dX6_digest_165 (by decide) rfl rfl ?_
      refine z_iload_n (pc := 168) dX6_digest_168 rfl ?_
      refine z_iload (pc := 169) dX6_digest_169 rfl ?_
      refine z_cV2 (pc := 171) mX2_ownAt l_X6_198 (by decide) dX6_digest_171 (by decide) rfl rfl (by decide) (Nat.le_of_ble_eq_true rfl) (c_X2_ownAt ha) rfl (fun r171 σ171 hr171 => ?_)
      obtain ⟨rfl, rfl⟩ := hr171
      refine z_i2l (pc := 174) dX6_digest_174 ?_
      refine z_ladd (pc := 175) dX6_digest_175 ?_
      refine z_lstore_n (pc := 176) dX6_digest_176 (by decide) rfl rfl ?_
      refine z_iincN (pc := 177) dX6_digest_177 rfl (by decide) rfl rfl ?_
      refine z_goto (pc := 180) (tgt := 139) dX6_digest_180 (by decide) ?_
      exact ih _ (by omega) (k := k + 1) (by omega) rfl
set_option maxRecDepth 20000 in
theorem k_dg183 {σ : z_Sto} {a : Nat} {d : Int64} {w4 : Option Value} {Φ : z_Post} (K : ∀ d', z_R layX iX6_digest 131 [some (.ref 0), some (.long d'), none, some (.int (nI (a + 1))), w4] [] σ Φ) : z_R layX iX6_digest 183 [some (.ref 0), some (.long d), none, some (.int (nI a)), w4] [] σ Φ := by
  refine z_ldc2 (pc := 183) k_X6_216 dX6_digest_183 ?_
  refine z_lload_n (pc := 186) dX6_digest_186 rfl ?_
  refine z_lmul (pc := 187) dX6_digest_187 ?_
  refine z_ldc2 (pc := 188) k_X6_227 dX6_digest_188 ?_
  refine z_ladd (pc := 191) dX6_digest_191 ?_
  refine z_lstore_n (pc := 192) dX6_digest_192 (by decide) rfl rfl ?_
  refine z_iincN (pc := 193) dX6_digest_193 rfl (by decide) rfl rfl ?_
  refine z_goto (pc := 196) (tgt := 131) dX6_digest_196 (by decide) ?_
  exact K _
set_option maxRecDepth 20000 in
theorem k_dg131 {σ : z_Sto} {a : Nat} {d : Int64} {v4 : Option Value} (ha : a ≤ 5) : z_R layX iX6_digest 131 [some (.ref 0), some (.long d), none, some (.int (nI a)), v4] [] σ (fun r σ' => (∃ v : Int64, r = some (.long v)) ∧ σ' = σ) := by
  generalize hf : 5 - a = f
  induction f using Nat.strongRecOn generalizing a d v4
  rename_i f ih
  refine z_iload_n (pc := 131) dX6_digest_131 rfl ?_
  refine z_iconst (pc := 132) (v := (nI 5)) dX6_digest_132 (by decide) ?_
  refine z_icmp_ge (pc := 133) (tgt := 199) dX6_digest_133 (by decide) (fun h133 => ?_) (fun h133 => ?_)
  · refine z_lload_n (pc := 199) dX6_digest_199 rfl ?_
    exact z_lreturn (pc := 200) dX6_digest_200 rfl (⟨⟨_, rfl⟩, rfl⟩)
  · have q133 : a < 5 := by have : ¬ 5 ≤ a := fun g => h133 ((nI_leI (by decide) (by omega)).mpr g); omega
    refine z_iconst (pc := 136) (v := (nI 0)) dX6_digest_136 (by decide) ?_
    refine z_istore (pc := 137) dX6_digest_137 (by decide) rfl rfl ?_
    exact k_dg139 (v2 := none) q133 (by decide) (fun d' w4 => k_dg183 (fun d2 => ih _ (by omega) (a := a + 1) (by omega) rfl))
set_option maxRecDepth 20000 in
theorem k_dg96 {σ : z_Sto} {n e h a k : Nat} {d : Int64} {T O : Nat → List Nat} {Φ : z_Post} (H : x_inv σ n e h T O) (hk : k ≤ 3) (K : ∀ d' w4, z_R layX iX6_digest 82 [some (.ref 0), some (.long d'), none, some (.int (nI (a + 1))), w4] [] σ Φ) : z_R layX iX6_digest 96 [some (.ref 0), some (.long d), none, some (.int (nI a)), some (.int (nI k))] [] σ Φ := by
  generalize hf : 3 - k = f
  induction f using Nat.strongRecOn generalizing k d
  rename_i f ih
  refine z_iload (pc := 96) dX6_digest_96 rfl ?_
  refine z_iconst (pc := 98) (v := (nI 2)) dX6_digest_98 (by decide) ?_
  refine z_icmp_gt (pc := 99) (tgt := 123) dX6_digest_99 (by decide) (fun h99 => ?_) (fun h99 => ?_)
  · refine z_iincN (pc := 123) dX6_digest_123 rfl (by decide) rfl rfl ?_
    refine z_goto (pc := 126) (tgt := 82) dX6_digest_126 (by decide) ?_
    exact K _ _
  · have q99 : k < 3 := by have : ¬ 2 < k := fun g => h99 ((nI_ltI (by decide) (by omega)).mpr g); omega
    refine z_ldc2 (pc := 102) k_X6_216 dX6_digest_102 ?_
    refine z_lload_n (pc := 105) dX6_digest_105 rfl ?_
    refine z_lmul (pc := 106) dX6_digest_106 ?_
    refine z_aload_n (pc := 107) dX6_digest_107 rfl ?_
    refine z_iload_n (pc := 108) dX6_digest_108 rfl ?_
    refine z_iload (pc := 109) dX6_digest_109 rfl ?_
    refine z_cV2 (pc := 111) mX6_event l_X6_224 (by decide) dX6_digest_111 (by decide) rfl rfl (by decide) (Nat.le_of_ble_eq_true rfl) (k_event H) rfl (fun r111 σ111 hr111 => ?_)
    obtain ⟨⟨v111, rfl⟩, rfl⟩ := hr111
    refine z_i2l (pc := 114) dX6_digest_114 ?_
    refine z_ladd (pc := 115) dX6_digest_115 ?_
    refine z_lstore_n (pc := 116) dX6_digest_116 (by decide) rfl rfl ?_
    refine z_iincN (pc := 117) dX6_digest_117 rfl (by decide) rfl rfl ?_
    refine z_goto (pc := 120) (tgt := 96) dX6_digest_120 (by decide) ?_
    exact ih _ (by omega) (k := k + 1) (by omega) rfl
set_option maxRecDepth 20000 in
theorem k_dg82 {σ : z_Sto} {n e h a : Nat} {d : Int64} {v4 : Option Value} {T O : Nat → List Nat} (H : x_inv σ n e h T O) (ha : a ≤ e) : z_R layX iX6_digest 82 [some (.ref 0), some (.long d), none, some (.int (nI a)), v4] [] σ (fun r σ' => (∃ v : Int64, r = some (.long v)) ∧ σ' = σ) := by
  have h3 := H.1.2.2.2.1
  generalize hf : e - a = f
  induction f using Nat.strongRecOn generalizing a d v4
  rename_i f ih
  refine z_iload_n (pc := 82) dX6_digest_82 rfl ?_
  refine z_aload_n (pc := 83) dX6_digest_83 rfl ?_
  refine z_getA (pc := 84) f_X6_26 dX6_digest_84 (by decide) rfl rfl ?_
  refine z_cV0 (pc := 87) mX1_size l_X6_145 (by decide) dX6_digest_87 (by decide) rfl rfl (by decide) (Nat.le_of_ble_eq_true rfl) (c_X1_size) rfl (fun r87 σ87 hr87 => ?_)
  obtain ⟨rfl, rfl⟩ := hr87
  rw [H.1.2.2.1]
  refine z_icmp_ge (pc := 90) (tgt := 129) dX6_digest_90 (by decide) (fun h90 => ?_) (fun h90 => ?_)
  · refine z_iconst (pc := 129) (v := (nI 0)) dX6_digest_129 (by decide) ?_
    refine z_istore_n (pc := 130) dX6_digest_130 (by decide) rfl rfl ?_
    exact k_dg131 (a := 0) (by decide)
  · have q90 : a < e := by have : ¬ e ≤ a := fun g => h90 ((nI_leI (by omega) (by omega)).mpr g); omega
    refine z_iconst (pc := 93) (v := (nI 0)) dX6_digest_93 (by decide) ?_
    refine z_istore (pc := 94) dX6_digest_94 (by decide) rfl rfl ?_
    exact k_dg96 H (by decide) (fun d' w4 => ih _ (by omega) (a := a + 1) (by omega) rfl)
set_option maxRecDepth 20000 in
theorem k_dg46 {σ : z_Sto} {n e h a k : Nat} {d : Int64} {T O : Nat → List Nat} {Φ : z_Post} (H : x_inv σ n e h T O) (hk : k ≤ 9) (K : ∀ d' w4, z_R layX iX6_digest 32 [some (.ref 0), some (.long d'), none, some (.int (nI (a + 1))), w4] [] σ Φ) : z_R layX iX6_digest 46 [some (.ref 0), some (.long d), none, some (.int (nI a)), some (.int (nI k))] [] σ Φ := by
  generalize hf : 9 - k = f
  induction f using Nat.strongRecOn generalizing k d
  rename_i f ih
  refine z_iload (pc := 46) dX6_digest_46 rfl ?_
  refine z_bipush (pc := 48) (v := (nI 8)) dX6_digest_48 (by decide) ?_
  refine z_icmp_gt (pc := 50) (tgt := 74) dX6_digest_50 (by decide) (fun h50 => ?_) (fun h50 => ?_)
  · refine z_iincN (pc := 74) dX6_digest_74 rfl (by decide) rfl rfl ?_
    refine z_goto (pc := 77) (tgt := 32) dX6_digest_77 (by decide) ?_
    exact K _ _
  · have q50 : k < 9 := by have : ¬ 8 < k := fun g => h50 ((nI_ltI (by decide) (by omega)).mpr g); omega
    refine z_ldc2 (pc := 53) k_X6_216 dX6_digest_53 ?_
    refine z_lload_n (pc := 56) dX6_digest_56 rfl ?_
    refine z_lmul (pc := 57) dX6_digest_57 ?_
    refine z_aload_n (pc := 58) dX6_digest_58 rfl ?_
    refine z_iload_n (pc := 59) dX6_digest_59 rfl ?_
    refine z_iload (pc := 60) dX6_digest_60 rfl ?_
    refine z_cV2 (pc := 62) mX6_about l_X6_221 (by decide) dX6_digest_62 (by decide) rfl rfl (by decide) (Nat.le_of_ble_eq_true rfl) (k_about H) rfl (fun r62 σ62 hr62 => ?_)
    obtain ⟨⟨v62, rfl⟩, rfl⟩ := hr62
    refine z_i2l (pc := 65) dX6_digest_65 ?_
    refine z_ladd (pc := 66) dX6_digest_66 ?_
    refine z_lstore_n (pc := 67) dX6_digest_67 (by decide) rfl rfl ?_
    refine z_iincN (pc := 68) dX6_digest_68 rfl (by decide) rfl rfl ?_
    refine z_goto (pc := 71) (tgt := 46) dX6_digest_71 (by decide) ?_
    exact ih _ (by omega) (k := k + 1) (by omega) rfl
set_option maxRecDepth 20000 in
theorem k_dg32 {σ : z_Sto} {n e h a : Nat} {d : Int64} {v4 : Option Value} {T O : Nat → List Nat} (H : x_inv σ n e h T O) (ha : a ≤ n) : z_R layX iX6_digest 32 [some (.ref 0), some (.long d), none, some (.int (nI a)), v4] [] σ (fun r σ' => (∃ v : Int64, r = some (.long v)) ∧ σ' = σ) := by
  have h12 := H.1.2.1
  generalize hf : n - a = f
  induction f using Nat.strongRecOn generalizing a d v4
  rename_i f ih
  refine z_iload_n (pc := 32) dX6_digest_32 rfl ?_
  refine z_aload_n (pc := 33) dX6_digest_33 rfl ?_
  refine z_getA (pc := 34) f_X6_19 dX6_digest_34 (by decide) rfl rfl ?_
  refine z_cV0 (pc := 37) mX4_size l_X6_204 (by decide) dX6_digest_37 (by decide) rfl rfl (by decide) (Nat.le_of_ble_eq_true rfl) (c_X4_size) rfl (fun r37 σ37 hr37 => ?_)
  obtain ⟨rfl, rfl⟩ := hr37
  rw [H.1.1]
  refine z_icmp_ge (pc := 40) (tgt := 80) dX6_digest_40 (by decide) (fun h40 => ?_) (fun h40 => ?_)
  · refine z_iconst (pc := 80) (v := (nI 0)) dX6_digest_80 (by decide) ?_
    refine z_istore_n (pc := 81) dX6_digest_81 (by decide) rfl rfl ?_
    exact k_dg82 (a := 0) H (by omega)
  · have q40 : a < n := by have : ¬ n ≤ a := fun g => h40 ((nI_leI (by omega) (by omega)).mpr g); omega
    refine z_iconst (pc := 43) (v := (nI 0)) dX6_digest_43 (by decide) ?_
    refine z_istore (pc := 44) dX6_digest_44 (by decide) rfl rfl ?_
    exact k_dg46 H (by decide) (fun d' w4 => ih _ (by omega) (a := a + 1) (by omega) rfl)
set_option maxRecDepth 20000 in
theorem k_dg6 {σ : z_Sto} {n e h k : Nat} {d : Int64} {T O : Nat → List Nat} (H : x_inv σ n e h T O) (hk : k ≤ 6) : z_R layX iX6_digest 6 [some (.ref 0), some (.long d), none, some (.int (nI k)), none] [] σ (fun r σ' => (∃ v : Int64, r = some (.long v)) ∧ σ' = σ) := by
  generalize hf : 6 - k = f
  induction f using Nat.strongRecOn generalizing k d
  rename_i f ih
  refine z_iload_n (pc := 6) dX6_digest_6 rfl ?_
  refine z_iconst (pc := 7) (v := (nI 5)) dX6_digest_7 (by decide) ?_
  refine z_icmp_gt (pc := 8) (tgt := 30) dX6_digest_8 (by decide) (fun h8 => ?_) (fun h8 => ?_)
  · refine z_iconst (pc := 30) (v := (nI 0)) dX6_digest_30 (by decide) ?_
    refine z_istore_n (pc := 31) dX6_digest_31 (by decide) rfl rfl ?_
    exact k_dg32 (a := 0) H (by omega)
  · have q8 : k < 6 := by have : ¬ 5 < k := fun g => h8 ((nI_ltI (by decide) (by omega)).mpr g); omega
    refine z_ldc2 (pc := 11) k_X6_216 dX6_digest_11 ?_
    refine z_lload_n (pc := 14) dX6_digest_14 rfl ?_
    refine z_lmul (pc := 15) dX6_digest_15 ?_
    refine z_aload_n (pc := 16) dX6_digest_16 rfl ?_
    refine z_iload_n (pc := 17) dX6_digest_17 rfl ?_
    refine z_cV1 (pc := 18) mX6_count l_X6_218 (by decide) dX6_digest_18 (by decide) rfl rfl (by decide) (Nat.le_of_ble_eq_true rfl) (k_count H) rfl (fun r18 σ18 hr18 => ?_)
    obtain ⟨⟨v18, rfl⟩, rfl⟩ := hr18
    refine z_i2l (pc := 21) dX6_digest_21 ?_
    refine z_ladd (pc := 22) dX6_digest_22 ?_
    refine z_lstore_n (pc := 23) dX6_digest_23 (by decide) rfl rfl ?_
    refine z_iincN (pc := 24) dX6_digest_24 rfl (by decide) rfl rfl ?_
    refine z_goto (pc := 27) (tgt := 6) dX6_digest_27 (by decide) ?_
    exact ih _ (by omega) (k := k + 1) (by omega) rfl
set_option maxRecDepth 20000 in
theorem k_digest {σ : z_Sto} {n e h : Nat} {T O : Nat → List Nat} (H : x_inv σ n e h T O) : z_R layX iX6_digest 0 [some (.ref 0), none, none, none, none] [] σ (fun r σ' => (∃ v : Int64, r = some (.long v)) ∧ σ' = σ) := by
  refine z_ldc2 (pc := 0) k_X6_214 dX6_digest_0 ?_
  refine z_lstore_n (pc := 3) dX6_digest_3 (by decide) rfl rfl ?_
  refine z_iconst (pc := 4) (v := (nI 0)) dX6_digest_4 (by decide) ?_
  refine z_istore_n (pc := 5) dX6_digest_5 (by decide) rfl rfl ?_
  exact k_dg6 (k := 0) H (by decide)
