/-! the law: counciled -/
set_option maxHeartbeats 4000000 in
set_option maxRecDepth 100000 in
theorem kL_counciled (l : Launch) (D : va_G) (cI cV cL : ClassId) (ga va ea da : Nat) (g a : Nat → Nat) (ra : Nat → Nat → Nat) (m ev dv : Nat → Int) (wL : va_W) (t : Int) (hS : SV m ev dv) (hL : LW cI cV g a ra m wL) (ht : m 3 ≤ t) (ht60 : m 3 < 60) (h0 : 0 < m 0) (z : Int) (hz : 0 ≤ z ∧ z < 10000000) (fo : Int) (hfo : fo = 0 ∨ fo = 1) : ML l yL_counciled wsL_counciled 7 167 [.ref (g 0), .ref (ga), .ref (va), .ref (ea), .ref (da), .int (iI (z)), .int (iI (fo))] (lw2 cI ga va m (ed2 cL ea da ev dv wL)) (LSt cI cV cL g a ra ga va ea da (t + 1)) D cI cV cL (some (.int (iI (1)))) := by
  refine ML.of (cc := cL_counciled) (maxL := 14) (ret := (some .boolean)) (by decide) rfl (Nat.le_of_ble_eq_true rfl) ?_
  intro p e s0 mi below meth c ls hx hb hr hts hown hlocks hml hW hK hl
  have hown : s0.vm.findClass RL = some mi.cls := hown
  have hl : lv_has ls 14 [(0, .ref (g 0)), (1, .ref (ga)), (2, .ref (va)), (3, .ref (ea)), (4, .ref (da)), (5, .int (iI (z))), (6, .int (iI (fo)))] := hl
  obtain ⟨hI, ⟨hE, hD, hN, hX⟩, hev, hdv⟩ := id hS
  obtain ⟨hbd, k0, k12, k1, k15, k3, k360, k4, k43, k7, k76, k6, k66, ho, hn⟩ := id hI.1
  have h5 : m 5 = -9 ∨ 0 ≤ m 5 := by
    have := hI.h45
    omega
  have hK2 : va_K D vwCl (kt cI cV) s0 := hK.sub [0, 1] rfl
  have hhd := hL.head
  have s2 := sv2 hS
  have h73 := hI.2.2.1
  refine lv_iload hx hb dL_counciled_0 (lv_at hl 5 rfl) ?_
  refine lv_aload_n hx hb dL_counciled_2 rfl (lv_at hl 1 rfl) ?_
  refine j_c hx hb dL_counciled_3 ?_
  refine Gld hx hb hK hW.1 (0) (by omega) (by omega) dL_counciled_4 ?_
  have r1 : bd (m 0) := hbd 0
  refine j_rem hx hb (by omega) (by omega) dL_counciled_5 ?_
  obtain ⟨x, ex⟩ : ∃ zz_ : Int, zz_ = z % (m 0) := ⟨_, rfl⟩
  rw [← ex]
  have h_x : 0 ≤ x ∧ x < m 0 := by
    have q0 := Int.emod_nonneg z (show m 0 ≠ 0 by omega)
    have q1 := Int.emod_lt_of_pos z h0
    omega
  have hcp := hI.2.2.2.2.1 x.toNat (by omega)
  have hpr := hI.2.2.2.1 x.toNat (by omega)
  refine lv_istore (lv' := [(7, .int (iI (x))), (0, .ref (g 0)), (1, .ref (ga)), (2, .ref (va)), (3, .ref (ea)), (4, .ref (da)), (5, .int (iI (z))), (6, .int (iI (fo)))]) hx hb dL_counciled_6 hl (by decide) rfl (fun ls hl => ?_)
  refine lv_iload hx hb dL_counciled_8 (lv_at hl 7 rfl) ?_
  refine j_zeq (tgt := 139) hx hb (by omega) dL_counciled_10 (by decide) (fun c2 => ?_) (fun c2 => ?_)
  · refine lv_iload hx hb dL_counciled_139 (lv_at hl 6 rfl) ?_
    refine j_bi hx hb dL_counciled_141 rfl ?_
    refine j_div hx hb (by omega) (by omega) dL_counciled_143 ?_
    refine j_c hx hb dL_counciled_144 ?_
    refine j_rem hx hb (by omega) (by omega) dL_counciled_145 ?_
    obtain ⟨y, ey⟩ : ∃ zz_ : Int, zz_ = (z / 12) % 5 := ⟨_, rfl⟩
    rw [← ey]
    have h_y : 0 ≤ y ∧ y < 5 := by omega
    refine lv_istore (lv' := [(8, .int (iI (y))), (7, .int (iI (x))), (0, .ref (g 0)), (1, .ref (ga)), (2, .ref (va)), (3, .ref (ea)), (4, .ref (da)), (5, .int (iI (z))), (6, .int (iI (fo)))]) hx hb dL_counciled_146 hl (by decide) rfl (fun ls hl => ?_)
    refine lv_iload hx hb dL_counciled_148 (lv_at hl 0 rfl) ?_
    refine lv_aload_n hx hb dL_counciled_150 rfl (lv_at hl 3 rfl) ?_
    refine j_c hx hb dL_counciled_151 ?_
    refine Gld hx hb hK hW.1 (1) (by omega) (by omega) dL_counciled_152 ?_
    have r3 : bd (m 1) := hbd 1
    refine j_ilt (tgt := 174) hx hb (by omega) (by omega) dL_counciled_153 (by decide) (fun c4 => ?_) (fun c4 => ?_)
    · refine lv_aload_n hx hb dL_counciled_174 rfl (lv_at hl 3 rfl) ?_
      refine lv_aload_n hx hb dL_counciled_175 rfl (lv_at hl 4 rfl) ?_
      refine j_c hx hb dL_counciled_176 ?_
      refine pl_callS (v := .int (iI (sm (fun i => b2i (seatL (fun i => m (32 + i)) (i : Int) (m 1).toNat = -9)) (m 0).toNat))) (n := 3) (w := lw2 cI ga va m (ed2 cL ea da ev dv wL)) (As := [.ref (ga), .ref (va), .int (iI ((-1)))]) (rest := []) ⟨hx, hb, hml, hown, hts⟩ hK (free_n hbd ⟨k0, k12⟩ ⟨k1, k15⟩) hW.1 gL_counciled_L_free rfl (by decide +kernel) ⟨Nat.le_of_ble_eq_true rfl, Nat.le_of_ble_eq_true rfl⟩ rfl hl.1 (Nat.le_of_ble_eq_true rfl) dL_counciled_177 ⟨Nat.zero_le _, Nat.zero_le _⟩ rfl ?_
      obtain ⟨nn, e_nn⟩ : ∃ zz_ : Int, zz_ = sm (fun i => b2i (seatL (fun i => m (32 + i)) (i : Int) (m 1).toNat = -9)) (m 0).toNat := ⟨_, rfl⟩
      rw [← e_nn]
      have nr := sm_rg (f := fun i => b2i (seatL (fun i => m (32 + i)) (i : Int) (m 1).toNat = -9)) (fun k => b2i_rg) (m 0).toNat
      rw [← e_nn] at nr
      refine lv_istore (lv' := [(9, .int (iI (nn))), (8, .int (iI (y))), (7, .int (iI (x))), (0, .ref (g 0)), (1, .ref (ga)), (2, .ref (va)), (3, .ref (ea)), (4, .ref (da)), (5, .int (iI (z))), (6, .int (iI (fo)))]) hx hb dL_counciled_180 hl (by decide) rfl (fun ls hl => ?_)
      refine lv_aload_n hx hb dL_counciled_182 rfl (lv_at hl 4 rfl) ?_
      refine j_c hx hb dL_counciled_183 ?_
      refine Gld hx hb hK hW.1 (5) (by omega) (by omega) dL_counciled_184 ?_
      have r5 : bd (m 5) := hbd 5
      refine j_zge (tgt := 223) hx hb (by omega) dL_counciled_185 (by decide) (fun c6 => ?_) (fun c6 => ?_)
      · refine lv_aload_n hx hb dL_counciled_223 rfl (lv_at hl 3 rfl) ?_
        refine lv_iload hx hb dL_counciled_224 (lv_at hl 2 rfl) ?_
        refine lv_iload hx hb dL_counciled_226 (lv_at hl 1 rfl) ?_
        obtain ⟨wL1, hL1, cM, hI1⟩ := ac_change_no l D hL hI (x := x) (y := y) (by omega) (by omega) h_x (by omega) (by first | exact Or.inl (by omega) | exact Or.inr (Or.inl (fun q => by first | exact absurd q.1 (by assumption) | (have := q.2; omega))) | exact Or.inr (Or.inr (by omega)))
        refine m_callV (v := some (.int (iI ((-2))))) (ci := 5) (n := 2) (As := [.int (iI (x)), .int (iI (y))]) (rest := []) (st2 := [.int (iI ((-2)))]) (pre := lw2 cI ga va m (ed2 cL ea da ev dv [])) (post := []) (w2 := lw2 cI ga va m (ed2 cL ea da ev dv wL1)) ⟨hx, hb, hml, hown, hts⟩ hK2 hW (cM) (by rw [List.append_nil]; rfl) (by rw [List.append_nil]; rfl) (hL.fst hL1) rfl hL.head gL_counciled_X5_change rfl (by decide +kernel) ⟨Nat.le_of_ble_eq_true rfl, Nat.le_of_ble_eq_true rfl⟩ rfl hl.1 (Nat.le_of_ble_eq_true rfl) dL_counciled_228 ⟨Nat.zero_le _, Nat.zero_le _⟩ rfl rfl (fun H locs hW => ?_)
        refine j_bi hx hb dL_counciled_231 rfl ?_
        refine j_ine (tgt := 240) hx hb (by omega) (by omega) dL_counciled_233 (by decide) (fun c7 => absurd c7 (by decide)) (fun c7 => ?_)
        refine j_c hx hb dL_counciled_236 ?_
        refine lv_goto (tgt := 241) hx hb dL_counciled_237 (by decide) ?_
        exact e_zret hx hb hr hlocks hW (by exact ⟨m, ev, dv, wL1, hS, by omega, hL1, rfl⟩) (by first | decide | exact b2i_or) (by rfl) dL_counciled_241
      · refine lv_aload_n hx hb dL_counciled_188 rfl (lv_at hl 4 rfl) ?_
        refine lv_aload_n hx hb dL_counciled_189 rfl (lv_at hl 5 rfl) ?_
        refine lv_iload hx hb dL_counciled_190 (lv_at hl 2 rfl) ?_
        refine pl_callS (v := .int (iI (b2i (seatL (fun i => m (32 + i)) x (m 1).toNat ≠ -9 ∨ seatL (fun i => m ((if m 5 ≠ -9 then (37 : Int) else 32).toNat + i)) x (m 1).toNat ≠ -9)))) (n := 3) (w := lw2 cI ga va m (ed2 cL ea da ev dv wL)) (As := [.ref (ga), .ref (va), .int (iI (x))]) (rest := []) ⟨hx, hb, hml, hown, hts⟩ hK (kL_isElder l D cI cV cL ga va (ed2 cL ea da ev dv wL) m hbd ⟨k1, k15⟩ h5 x (by omega)) hW.1 gL_counciled_L_isElder rfl (by decide +kernel) ⟨Nat.le_of_ble_eq_true rfl, Nat.le_of_ble_eq_true rfl⟩ rfl hl.1 (Nat.le_of_ble_eq_true rfl) dL_counciled_192 ⟨Nat.zero_le _, Nat.zero_le _⟩ rfl ?_
        refine j_beq (tgt := 223) hx hb dL_counciled_195 (by decide) (fun c8 => ?_) (fun c8 => ?_)
        · refine lv_aload_n hx hb dL_counciled_223 rfl (lv_at hl 3 rfl) ?_
          refine lv_iload hx hb dL_counciled_224 (lv_at hl 2 rfl) ?_
          refine lv_iload hx hb dL_counciled_226 (lv_at hl 1 rfl) ?_
          obtain ⟨wL1, hL1, cM, hI1⟩ := ac_change_no l D hL hI (x := x) (y := y) (by omega) (by omega) h_x (by omega) (by first | exact Or.inl (by omega) | exact Or.inr (Or.inl (fun q => by first | exact absurd q.1 (by assumption) | (have := q.2; omega))) | exact Or.inr (Or.inr (by omega)))
          refine m_callV (v := some (.int (iI ((-2))))) (ci := 5) (n := 2) (As := [.int (iI (x)), .int (iI (y))]) (rest := []) (st2 := [.int (iI ((-2)))]) (pre := lw2 cI ga va m (ed2 cL ea da ev dv [])) (post := []) (w2 := lw2 cI ga va m (ed2 cL ea da ev dv wL1)) ⟨hx, hb, hml, hown, hts⟩ hK2 hW (cM) (by rw [List.append_nil]; rfl) (by rw [List.append_nil]; rfl) (hL.fst hL1) rfl hL.head gL_counciled_X5_change rfl (by decide +kernel) ⟨Nat.le_of_ble_eq_true rfl, Nat.le_of_ble_eq_true rfl⟩ rfl hl.1 (Nat.le_of_ble_eq_true rfl) dL_counciled_228 ⟨Nat.zero_le _, Nat.zero_le _⟩ rfl rfl (fun H locs hW => ?_)
          refine j_bi hx hb dL_counciled_231 rfl ?_
          refine j_ine (tgt := 240) hx hb (by omega) (by omega) dL_counciled_233 (by decide) (fun c9 => absurd c9 (by decide)) (fun c9 => ?_)
          refine j_c hx hb dL_counciled_236 ?_
          refine lv_goto (tgt := 241) hx hb dL_counciled_237 (by decide) ?_
          exact e_zret hx hb hr hlocks hW (by exact ⟨m, ev, dv, wL1, hS, by omega, hL1, rfl⟩) (by first | decide | exact b2i_or) (by rfl) dL_counciled_241
        · refine lv_aload_n hx hb dL_counciled_198 rfl (lv_at hl 5 rfl) ?_
          refine lv_iload hx hb dL_counciled_199 (lv_at hl 2 rfl) ?_
          refine Vld hx hb hK hW.1 (8 + x.toNat) (by omega) (by omega) dL_counciled_201 ?_
          have r10 : bd (m (8 + x.toNat)) := hbd (8 + x.toNat)
          refine j_zeq (tgt := 223) hx hb (by omega) dL_counciled_202 (by decide) (fun c11 => ?_) (fun c11 => ?_)
          · refine lv_aload_n hx hb dL_counciled_223 rfl (lv_at hl 3 rfl) ?_
            refine lv_iload hx hb dL_counciled_224 (lv_at hl 2 rfl) ?_
            refine lv_iload hx hb dL_counciled_226 (lv_at hl 1 rfl) ?_
            obtain ⟨wL1, hL1, cM, hI1⟩ := ac_change_no l D hL hI (x := x) (y := y) (by omega) (by omega) h_x (by omega) (by first | exact Or.inl (by omega) | exact Or.inr (Or.inl (fun q => by first | exact absurd q.1 (by assumption) | (have := q.2; omega))) | exact Or.inr (Or.inr (by omega)))
            refine m_callV (v := some (.int (iI ((-2))))) (ci := 5) (n := 2) (As := [.int (iI (x)), .int (iI (y))]) (rest := []) (st2 := [.int (iI ((-2)))]) (pre := lw2 cI ga va m (ed2 cL ea da ev dv [])) (post := []) (w2 := lw2 cI ga va m (ed2 cL ea da ev dv wL1)) ⟨hx, hb, hml, hown, hts⟩ hK2 hW (cM) (by rw [List.append_nil]; rfl) (by rw [List.append_nil]; rfl) (hL.fst hL1) rfl hL.head gL_counciled_X5_change rfl (by decide +kernel) ⟨Nat.le_of_ble_eq_true rfl, Nat.le_of_ble_eq_true rfl⟩ rfl hl.1 (Nat.le_of_ble_eq_true rfl) dL_counciled_228 ⟨Nat.zero_le _, Nat.zero_le _⟩ rfl rfl (fun H locs hW => ?_)
            refine j_bi hx hb dL_counciled_231 rfl ?_
            refine j_ine (tgt := 240) hx hb (by omega) (by omega) dL_counciled_233 (by decide) (fun c12 => absurd c12 (by decide)) (fun c12 => ?_)
            refine j_c hx hb dL_counciled_236 ?_
            refine lv_goto (tgt := 241) hx hb dL_counciled_237 (by decide) ?_
            exact e_zret hx hb hr hlocks hW (by exact ⟨m, ev, dv, wL1, hS, by omega, hL1, rfl⟩) (by first | decide | exact b2i_or) (by rfl) dL_counciled_241
          · refine lv_aload_n hx hb dL_counciled_205 rfl (lv_at hl 5 rfl) ?_
            refine j_bi hx hb dL_counciled_206 rfl ?_
            refine lv_iload hx hb dL_counciled_208 (lv_at hl 2 rfl) ?_
            refine j_add hx hb dL_counciled_210 ?_
            refine Vld hx hb hK hW.1 (20 + x.toNat) (by omega) (by omega) dL_counciled_211 ?_
            have r13 : bd (m (20 + x.toNat)) := hbd (20 + x.toNat)
            refine lv_aload_n hx hb dL_counciled_212 rfl (lv_at hl 4 rfl) ?_
            refine j_c hx hb dL_counciled_213 ?_
            refine Gld hx hb hK hW.1 (3) (by omega) (by omega) dL_counciled_214 ?_
            have r14 : bd (m 3) := hbd 3
            refine j_ilt (tgt := 223) hx hb (by omega) (by omega) dL_counciled_215 (by decide) (fun c15 => ?_) (fun c15 => ?_)
            · refine lv_aload_n hx hb dL_counciled_223 rfl (lv_at hl 3 rfl) ?_
              refine lv_iload hx hb dL_counciled_224 (lv_at hl 2 rfl) ?_
              refine lv_iload hx hb dL_counciled_226 (lv_at hl 1 rfl) ?_
              obtain ⟨wL1, hL1, cM, hI1⟩ := ac_change_no l D hL hI (x := x) (y := y) (by omega) (by omega) h_x (by omega) (by first | exact Or.inl (by omega) | exact Or.inr (Or.inl (fun q => by first | exact absurd q.1 (by assumption) | (have := q.2; omega))) | exact Or.inr (Or.inr (by omega)))
              refine m_callV (v := some (.int (iI ((-2))))) (ci := 5) (n := 2) (As := [.int (iI (x)), .int (iI (y))]) (rest := []) (st2 := [.int (iI ((-2)))]) (pre := lw2 cI ga va m (ed2 cL ea da ev dv [])) (post := []) (w2 := lw2 cI ga va m (ed2 cL ea da ev dv wL1)) ⟨hx, hb, hml, hown, hts⟩ hK2 hW (cM) (by rw [List.append_nil]; rfl) (by rw [List.append_nil]; rfl) (hL.fst hL1) rfl hL.head gL_counciled_X5_change rfl (by decide +kernel) ⟨Nat.le_of_ble_eq_true rfl, Nat.le_of_ble_eq_true rfl⟩ rfl hl.1 (Nat.le_of_ble_eq_true rfl) dL_counciled_228 ⟨Nat.zero_le _, Nat.zero_le _⟩ rfl rfl (fun H locs hW => ?_)
              refine j_bi hx hb dL_counciled_231 rfl ?_
              refine j_ine (tgt := 240) hx hb (by omega) (by omega) dL_counciled_233 (by decide) (fun c16 => absurd c16 (by decide)) (fun c16 => ?_)
              refine j_c hx hb dL_counciled_236 ?_
              refine lv_goto (tgt := 241) hx hb dL_counciled_237 (by decide) ?_
              exact e_zret hx hb hr hlocks hW (by exact ⟨m, ev, dv, wL1, hS, by omega, hL1, rfl⟩) (by first | decide | exact b2i_or) (by rfl) dL_counciled_241
            · refine lv_iload hx hb dL_counciled_218 (lv_at hl 0 rfl) ?_
              refine j_zne (tgt := 242) hx hb (by omega) dL_counciled_220 (by decide) (fun c17 => ?_) (fun c17 => ?_)
              · refine lv_aload_n hx hb dL_counciled_242 rfl (lv_at hl 4 rfl) ?_
                refine j_bi hx hb dL_counciled_243 rfl ?_
                refine Gld hx hb hK hW.1 (6) (by omega) (by omega) dL_counciled_245 ?_
                have r18 : bd (m 6) := hbd 6
                refine j_i2l hx hb (by omega) dL_counciled_246 ?_
                refine lv_lstore (lv' := [(10, .long (lI (m 6))), (9, .int (iI (nn))), (8, .int (iI (y))), (7, .int (iI (x))), (0, .ref (g 0)), (1, .ref (ga)), (2, .ref (va)), (3, .ref (ea)), (4, .ref (da)), (5, .int (iI (z))), (6, .int (iI (fo)))]) hx hb dL_counciled_247 hl (by decide) rfl (fun ls hl => ?_)
                refine lv_aload_n hx hb dL_counciled_249 rfl (lv_at hl 5 rfl) ?_
                refine j_bi hx hb dL_counciled_250 rfl ?_
                refine lv_aload_n hx hb dL_counciled_252 rfl (lv_at hl 5 rfl) ?_
                refine j_bi hx hb dL_counciled_253 rfl ?_
                refine Gld hx hb hK hW.1 (6) (by omega) (by omega) dL_counciled_255 ?_
                have r19 : bd (m 6) := hbd 6
                refine pl_callS (v := .int (iI ((m 6 * 25173 + 13849) % 65536))) (n := 1) (w := []) (As := [.int (iI (m 6))]) (rest := [.int (iI (6)), .ref (ga)]) ⟨hx, hb, hml, hown, hts⟩ hK (kL_next l D cI cV cL (m 6) ⟨k6, k66⟩) (fun k q h => by simp at h) gL_counciled_L_next rfl (by decide +kernel) ⟨Nat.le_of_ble_eq_true rfl, Nat.le_of_ble_eq_true rfl⟩ rfl hl.1 (Nat.le_of_ble_eq_true rfl) dL_counciled_256 ⟨Nat.zero_le _, Nat.zero_le _⟩ rfl ?_
                refine Gst hx hb hK hW (6) (by omega) (by omega) dL_counciled_259 (fun H locs hW => ?_)
                obtain ⟨mu_20, emu_20⟩ : ∃ zz_, zz_ = up m (6) ((m 6 * 25173 + 13849) % 65536) := ⟨_, rfl⟩
                rw [← emu_20] at hW
                have hb1 : ∀ k, bd (mu_20 k) := by
                  rw [emu_20]
                  exact bd_up hbd (by omega)
                have eq1 : ∀ j, j ≠ 6 → mu_20 j = m j := fun j hj => by rw [emu_20, up_ne hj]
                refine lv_aload_n hx hb dL_counciled_260 rfl (lv_at hl 5 rfl) ?_
                refine lv_aload_n hx hb dL_counciled_261 rfl (lv_at hl 6 rfl) ?_
                refine lv_aload_n hx hb dL_counciled_262 rfl (lv_at hl 5 rfl) ?_
                refine j_bi hx hb dL_counciled_263 rfl ?_
                refine Gld hx hb hK hW.1 (6) (by omega) (by omega) dL_counciled_265 ?_
                rw [show mu_20 6 = (m 6 * 25173 + 13849) % 65536 from by rw [emu_20, up_at rfl]]
                refine lv_iload hx hb dL_counciled_266 (lv_at hl 1 rfl) ?_
                refine j_rem hx hb (by omega) (by omega) dL_counciled_268 ?_
                have n0 : nn ≠ 0 := by assumption
                have hp0 := Int.emod_nonneg ((m 6 * 25173 + 13849) % 65536) n0
                have hp1 := Int.emod_lt_of_pos ((m 6 * 25173 + 13849) % 65536) (show 0 < nn by omega)
                refine pl_callS (v := .int (iI (pickL (fun i => b2i (seatL (fun i => m (32 + i)) (i : Int) (m 1).toNat = -9)) (((m 6 * 25173 + 13849) % 65536) % nn) (m 0).toNat))) (n := 3) (w := lw2 cI ga va mu_20 (ed2 cL ea da ev dv wL)) (As := [.ref (ga), .ref (va), .int (iI (((m 6 * 25173 + 13849) % 65536) % nn))]) (rest := []) ⟨hx, hb, hml, hown, hts⟩ hK (free_p (m := m) hb1 ⟨k0, k12⟩ ⟨k1, k15⟩ eq1 (by omega)) hW.1 gL_counciled_L_free rfl (by decide +kernel) ⟨Nat.le_of_ble_eq_true rfl, Nat.le_of_ble_eq_true rfl⟩ rfl hl.1 (Nat.le_of_ble_eq_true rfl) dL_counciled_269 ⟨Nat.zero_le _, Nat.zero_le _⟩ rfl ?_
                obtain ⟨vi, evi⟩ : ∃ zz_ : Int, zz_ = pickL (fun i => b2i (seatL (fun i => m (32 + i)) (i : Int) (m 1).toNat = -9)) (((m 6 * 25173 + 13849) % 65536) % nn) (m 0).toNat := ⟨_, rfl⟩
                rw [← evi]
                have hv := drawn_ok hI e_nn evi n0
                obtain ⟨v0, v1, nn0, nn12, vN⟩ := id hv
                refine lv_istore (lv' := [(12, .int (iI (vi))), (10, .long (lI (m 6))), (9, .int (iI (nn))), (8, .int (iI (y))), (7, .int (iI (x))), (0, .ref (g 0)), (1, .ref (ga)), (2, .ref (va)), (3, .ref (ea)), (4, .ref (da)), (5, .int (iI (z))), (6, .int (iI (fo)))]) hx hb dL_counciled_272 hl (by decide) rfl (fun ls hl => ?_)
                refine lv_aload hx hb dL_counciled_274 (lv_at hl 9 rfl) ?_
                refine lv_aload_n hx hb dL_counciled_276 rfl (lv_at hl 6 rfl) ?_
                refine j_bi hx hb dL_counciled_277 rfl ?_
                refine Gld hx hb hK hW.1 (7) (by omega) (by omega) dL_counciled_279 ?_
                rw [show mu_20 7 = m 7 from by rw [emu_20, up_ne (by omega)]]
                have r21 : bd (m 7) := hbd 7
                refine lv_lload hx hb dL_counciled_280 (lv_at hl 1 rfl) ?_
                refine lv_iload hx hb dL_counciled_282 (lv_at hl 2 rfl) ?_
                refine j_i2l hx hb (by omega) dL_counciled_284 ?_
                refine j_bi hx hb dL_counciled_285 rfl ?_
                refine j_lshl (q := 65536) (k' := 16) hx hb (by decide) (by decide) (by decide) dL_counciled_287 ?_
                refine j_lor (k' := 16) (P := 65536) hx hb (by decide) (by decide) (by omega) (by omega) (by omega) dL_counciled_288 ?_
                refine lv_iload hx hb dL_counciled_289 (lv_at hl 0 rfl) ?_
                refine j_i2l hx hb (by omega) dL_counciled_291 ?_
                refine j_bi hx hb dL_counciled_292 rfl ?_
                refine j_lshl (q := 1048576) (k' := 20) hx hb (by decide) (by decide) (by decide) dL_counciled_294 ?_
                refine j_lor (k' := 20) (P := 1048576) hx hb (by decide) (by decide) (by omega) (by omega) (by omega) dL_counciled_295 ?_
                refine lv_iload hx hb dL_counciled_296 (lv_at hl 0 rfl) ?_
                refine j_i2l hx hb (by omega) dL_counciled_298 ?_
                refine j_bi hx hb dL_counciled_299 rfl ?_
                refine j_lshl (q := 16777216) (k' := 24) hx hb (by decide) (by decide) (by decide) dL_counciled_301 ?_
                refine j_lor (k' := 24) (P := 16777216) hx hb (by decide) (by decide) (by omega) (by omega) (by omega) dL_counciled_302 ?_
                refine lv_iload hx hb dL_counciled_303 (lv_at hl 3 rfl) ?_
                refine j_i2l hx hb (by omega) dL_counciled_305 ?_
                refine j_bi hx hb dL_counciled_306 rfl ?_
                refine j_lshl (q := 268435456) (k' := 28) hx hb (by decide) (by decide) (by decide) dL_counciled_308 ?_
                refine j_lor (k' := 28) (P := 268435456) hx hb (by decide) (by decide) (by omega) (by omega) (by omega) dL_counciled_309 ?_
                refine Lst hx hb hK hW 3 (f := dv) rfl (((m 7).toNat)) (by omega) (by omega) dL_counciled_310 (lw2 cI ga va mu_20 (ed2 cL ea da ev (up dv (((m 7).toNat)) (((((m 6) + nn * 65536) + vi * 1048576) + vi * 16777216) + y * 268435456)) wL)) rfl (fun H locs hW => ?_)
                obtain ⟨dv_22, edv_22⟩ : ∃ zz_, zz_ = up dv (((m 7).toNat)) (((((m 6) + nn * 65536) + vi * 1048576) + vi * 16777216) + y * 268435456) := ⟨_, rfl⟩
                rw [← edv_22] at hW
                refine lv_aload_n hx hb dL_counciled_311 rfl (lv_at hl 6 rfl) ?_
                refine j_bi hx hb dL_counciled_312 rfl ?_
                refine lv_dup2_11 hx hb dL_counciled_314 rfl rfl ?_
                refine Gld hx hb hK hW.1 (7) (by omega) (by omega) dL_counciled_315 ?_
                rw [show mu_20 7 = m 7 from by rw [emu_20, up_ne (by omega)]]
                have r23 : bd (m 7) := hbd 7
                refine j_c hx hb dL_counciled_316 ?_
                refine j_add hx hb dL_counciled_317 ?_
                refine Gst hx hb hK hW (7) (by omega) (by omega) dL_counciled_318 (fun H locs hW => ?_)
                obtain ⟨mu_24, emu_24⟩ : ∃ zz_, zz_ = up mu_20 (7) ((m 7) + 1) := ⟨_, rfl⟩
                rw [← emu_24] at hW
                refine j_c hx hb dL_counciled_319 ?_
                refine lv_istore (lv' := [(13, .int (iI (0))), (12, .int (iI (vi))), (10, .long (lI (m 6))), (9, .int (iI (nn))), (8, .int (iI (y))), (7, .int (iI (x))), (0, .ref (g 0)), (1, .ref (ga)), (2, .ref (va)), (3, .ref (ea)), (4, .ref (da)), (5, .int (iI (z))), (6, .int (iI (fo)))]) hx hb dL_counciled_320 hl (by decide) rfl (fun ls hl => ?_)
                have LP322 : ∀ (fu : Nat) (i : Nat), (i ≤ 5) → 5 - i < fu → ∀ (H : Heap) (locs : List Loc), Wd D (ad (lw2 cI ga va m (ed2 cL ea da ev dv wL))) (lw2 cI ga va (blk mu_24 37 (fun t : Nat => if (t : Int) = y then vi else m (32 + t)) i) (ed2 cL ea da ev dv_22 wL)) s0.heap H locs → ∀ ls : Array Slot, lv_has ls 14 [(13, .int (iI ((i : Int)))), (12, .int (iI (vi))), (10, .long (lI (m 6))), (9, .int (iI (nn))), (8, .int (iI (y))), (7, .int (iI (x))), (0, .ref (g 0)), (1, .ref (ga)), (2, .ref (va)), (3, .ref (ea)), (4, .ref (da)), (5, .int (iI (z))), (6, .int (iI (fo)))] → W p l e (headSpec wsL_counciled (rmK 7 167)).room s0 mi ([.ref (g 0), .ref (ga), .ref (va), .ref (ea), .ref (da), .int (iI (z)), .int (iI (fo))] : List Value).toArray below meth c H locs 0 0 (MQ below (mR D (some (.int (iI (1)))) (LSt cI cV cL g a ra ga va ea da (t + 1)) (ad (lw2 cI ga va m (ed2 cL ea da ev dv wL)))) ([.ref (g 0), .ref (ga), .ref (va), .ref (ea), .ref (da), .int (iI (z)), .int (iI (fo))] : List Value).toArray s0 0 0 (ad (lw2 cI ga va m (ed2 cL ea da ev dv wL)))) (F0 mi 322 ls []) := by
                  intro fu
                  induction fu with
                  | zero =>
                    intros
                    omega
                  | succ fu ih322 =>
                    intro i   hinv hmeas H locs hW ls hl
                    refine lv_iload hx hb dL_counciled_322 (lv_at hl 0 rfl) ?_
                    refine j_c hx hb dL_counciled_324 ?_
                    refine j_ige (tgt := 360) hx hb (by omega) (by omega) dL_counciled_325 (by decide) (fun c25 => ?_) (fun c25 => ?_)
                    · obtain rfl : i = 5 := by omega
                      obtain ⟨m5, em5⟩ : ∃ zz_, zz_ = blk mu_24 37 (fun t : Nat => if (t : Int) = y then vi else m (32 + t)) 5 := ⟨_, rfl⟩
                      rw [← em5] at hW
                      have q5 : ∀ j, j < 37 → j ≠ 6 → j ≠ 7 → m5 j = m j := fun j a b c => by rw [em5, blk_out (by omega), emu_24, up_ne (by omega), emu_20, up_ne (by omega)]
                      have q56 : m5 6 = (m 6 * 25173 + 13849) % 65536 := by rw [em5, blk_out (by omega), emu_24, up_ne (by omega), emu_20, up_at rfl]
                      have q57 : m5 7 = m 7 + 1 := by rw [em5, blk_out (by omega), emu_24, up_at rfl]
                      have q5n : ∀ i : Nat, i < 5 → m5 (37 + i) = if (i : Int) = y then vi else m (32 + i) := fun i hi => by rw [em5, blk_in hi]
                      refine lv_aload_n hx hb dL_counciled_360 rfl (lv_at hl 7 rfl) ?_
                      refine j_c hx hb dL_counciled_361 ?_
                      refine lv_aload_n hx hb dL_counciled_362 rfl (lv_at hl 7 rfl) ?_
                      refine j_c hx hb dL_counciled_363 ?_
                      refine Gld hx hb hK hW.1 (3) (by omega) (by omega) dL_counciled_364 ?_
                      rw [show m5 3 = m 3 from by exact q5 3 (by omega) (by omega) (by omega)]
                      refine Gst hx hb hK hW (5) (by omega) (by omega) dL_counciled_365 (fun H locs hW => ?_)
                      obtain ⟨m6, em6⟩ : ∃ zz_, zz_ = up m5 5 (m 3) := ⟨_, rfl⟩
                      rw [← em6] at hW
                      have q6 : ∀ j, j < 37 → j ≠ 5 → j ≠ 6 → j ≠ 7 → m6 j = m j := fun j a b c d => by rw [em6, up_ne b]; exact q5 j a c d
                      have hb6 : ∀ k, bd (m6 k) := fun k => by
                        by_cases a5 : k = 5
                        · rw [em6, up_at a5]
                          omega
                        by_cases a37 : 37 ≤ k ∧ k < 42
                        · obtain ⟨i, rfl⟩ : ∃ i, k = 37 + i := ⟨k - 37, by omega⟩
                          rw [em6, up_ne a5, q5n i (by omega)]
                          have := hbd (32 + i)
                          split <;> omega
                        have hb2 := hb1 k
                        rw [em6, up_ne a5, em5, blk_out (by omega)]
                        rw [emu_24]
                        exact bd_up hb1 (by omega) k
                      refine lv_aload_n hx hb dL_counciled_366 rfl (lv_at hl 7 rfl) ?_
                      refine lv_aload_n hx hb dL_counciled_367 rfl (lv_at hl 8 rfl) ?_
                      refine lv_aload_n hx hb dL_counciled_368 rfl (lv_at hl 9 rfl) ?_
                      refine lv_iload hx hb dL_counciled_369 (lv_at hl 5 rfl) ?_
                      refine j_bi hx hb dL_counciled_371 rfl ?_
                      refine e_callS (v := none) (n := 5) (As := [.ref (ga), .ref (va), .ref (ea), .int (iI (x)), .int (iI ((-9)))]) (rest := []) (st2 := []) (pre := []) (post := (da, arL cL 60 dv_22) :: wL) ⟨hx, hb, hml, hown, hts⟩ hK hW (kL_writes l D cI cV cL ga va ea m6 ev hb6 (by rw [q6 3 (by omega) (by omega) (by omega) (by omega)]; omega) (by rw [q6 2 (by omega) (by omega) (by omega) (by omega)]; omega) x (-9) ⟨h_x.1, by omega⟩ (by decide)) rfl (fun w' e => by subst e; rfl) gL_counciled_L_writes rfl (by decide +kernel) ⟨Nat.le_of_ble_eq_true rfl, Nat.le_of_ble_eq_true rfl⟩ rfl hl.1 (Nat.le_of_ble_eq_true rfl) dL_counciled_373 ⟨Nat.zero_le _, Nat.zero_le _⟩ rfl rfl (fun w_ H locs hR_ hW => ?_)
                      subst hR_
                      have hW : Wd D (ad (lw2 cI ga va m (ed2 cL ea da ev dv wL))) (lw2 cI ga va (wtS m6 x (-9)) (ed2 cL ea da (up ev (m6 3).toNat (-9 + 9 + m6 2 * 1024 + x * 262144)) dv_22 wL)) s0.heap H locs := hW
                      obtain ⟨W, eW⟩ : ∃ W, W = chgW m x y nn vi := ⟨_, rfl⟩
                      have hIW := chgW_inv (y := y) hI h_x ⟨h_y.1, by omega⟩ (by omega) (by omega) ht60 hv
                      have hSW := SV_chg hS hIW h_x ⟨h_y.1, by omega⟩ (by omega) ht60 hv
                      rw [← edv_22, ← eW] at hSW
                      rw [← eW] at hIW
                      obtain ⟨evW, eevW⟩ : ∃ zz_, zz_ = up ev (m 3).toNat (-9 + 9 + m 2 * 1024 + x * 262144) := ⟨_, rfl⟩
                      rw [← eevW] at hSW
                      have hW : Wd D (ad (lw2 cI ga va m (ed2 cL ea da ev dv wL))) (lw2 cI ga va W (ed2 cL ea da evW dv_22 wL)) s0.heap H locs := by
                        rw [lw2_congr (m := W) (m' := wtS m6 x (-9)) (fun j hj => by rw [eW]; exact (chg_law ⟨k3, ht60⟩ ⟨h_x.1, by omega⟩ (by omega) q6 (by rw [em6, up_at rfl]) (by rw [em6, up_ne (by omega)]; exact q56) (by rw [em6, up_ne (by omega)]; exact q57) (fun i hi => by rw [em6, up_ne (by omega)]; exact q5n i hi) hj).symm), eevW, ← q6 3 (by omega) (by omega) (by omega) (by omega), ← q6 2 (by omega) (by omega) (by omega) (by omega)]
                        exact hW
                      have g4 := mg_MS (W 3 - W 4).toNat hSW.1.1 hSW.1.2.1
                      have g5 := mg_rg hSW.1.1 hSW.1.2.1 (W 3 - W 4).toNat
                      have gs := SV_mg (W 3 - W 4).toNat hSW
                      have w3 : W 3 = m 3 + 1 := by rw [eW, chgW_o (by omega), chgG_3]
                      refine lv_aload_n hx hb dL_counciled_376 rfl (lv_at hl 7 rfl) ?_
                      refine lv_aload_n hx hb dL_counciled_377 rfl (lv_at hl 8 rfl) ?_
                      refine e_callS (v := some (.int (iI (mgS (W 3 - W 4).toNat W 4 - W 4)))) (n := 2) (As := [.ref (ga), .ref (va)]) (rest := []) (st2 := [.int (iI (mgS (W 3 - W 4).toNat W 4 - W 4))]) (pre := []) (post := ed2 cL ea da evW dv_22 wL) ⟨hx, hb, hml, hown, hts⟩ hK hW (kL_agree l D cI cV cL ga va W hSW.1 hSW.2.1.2.2.2) rfl (fun w' e => by subst e; rfl) gL_counciled_L_agree rfl (by decide +kernel) ⟨Nat.le_of_ble_eq_true rfl, Nat.le_of_ble_eq_true rfl⟩ rfl hl.1 (Nat.le_of_ble_eq_true rfl) dL_counciled_378 ⟨Nat.zero_le _, Nat.zero_le _⟩ rfl rfl (fun w_ H locs hR_ hW => ?_)
                      subst hR_
                      have hW : Wd D (ad (lw2 cI ga va m (ed2 cL ea da ev dv wL))) (lw2 cI ga va (mgS (W 3 - W 4).toNat W) (ed2 cL ea da evW dv_22 wL)) s0.heap H locs := hW
                      refine lv_istore (lv' := [(13, .int (iI (mgS (W 3 - W 4).toNat W 4 - W 4))), (12, .int (iI (vi))), (10, .long (lI (m 6))), (9, .int (iI (nn))), (8, .int (iI (y))), (7, .int (iI (x))), (0, .ref (g 0)), (1, .ref (ga)), (2, .ref (va)), (3, .ref (ea)), (4, .ref (da)), (5, .int (iI (z))), (6, .int (iI (fo)))]) hx hb dL_counciled_381 hl (by decide) rfl (fun ls hl => ?_)
                      refine lv_iload hx hb dL_counciled_383 (lv_at hl 0 rfl) ?_
                      refine j_zlt (tgt := 405) hx hb (by omega) dL_counciled_385 (by decide) (fun c27 => absurd c27 (by omega)) (fun c27 => ?_)
                      refine lv_aload_n hx hb dL_counciled_388 rfl (lv_at hl 6 rfl) ?_
                      refine lv_iload hx hb dL_counciled_389 (lv_at hl 5 rfl) ?_
                      refine lv_iload hx hb dL_counciled_391 (lv_at hl 4 rfl) ?_
                      obtain ⟨wL1, hL1, cM⟩ := ac_change l D hL hI (x := x) (y := y) (nn := nn) (vi := vi) h_x ⟨h_y.1, by omega⟩ e_nn evi (by omega) (by refine ⟨by assumption, ?_, ?_⟩ <;> omega) n0 ht60
                      rw [← eW] at hL1
                      refine m_callV (v := some (.int (iI (vi)))) (ci := 5) (n := 2) (As := [.int (iI (x)), .int (iI (y))]) (rest := []) (st2 := [.int (iI (vi))]) (pre := lw2 cI ga va (mgS (W 3 - W 4).toNat W) (ed2 cL ea da evW dv_22 [])) (post := []) (w2 := lw2 cI ga va (mgS (W 3 - W 4).toNat W) (ed2 cL ea da evW dv_22 wL1)) ⟨hx, hb, hml, hown, hts⟩ hK2 hW (cM) (by rw [List.append_nil]; rfl) (by rw [List.append_nil]; rfl) (hL.fst hL1) rfl hL.head gL_counciled_X5_change rfl (by decide +kernel) ⟨Nat.le_of_ble_eq_true rfl, Nat.le_of_ble_eq_true rfl⟩ rfl hl.1 (Nat.le_of_ble_eq_true rfl) dL_counciled_393 ⟨Nat.zero_le _, Nat.zero_le _⟩ rfl rfl (fun H locs hW => ?_)
                      refine lv_iload hx hb dL_counciled_396 (lv_at hl 1 rfl) ?_
                      refine j_ine (tgt := 405) hx hb (by omega) (by omega) dL_counciled_398 (by decide) (fun c28 => absurd c28 (by omega)) (fun c28 => ?_)
                      refine j_c hx hb dL_counciled_401 ?_
                      refine lv_goto (tgt := 406) hx hb dL_counciled_402 (by decide) ?_
                      exact e_zret hx hb hr hlocks hW (by exact ⟨mgS (W 3 - W 4).toNat W, evW, dv_22, wL1, gs.1, by omega, hL1, rfl⟩) (by first | decide | exact b2i_or) (by rfl) dL_counciled_406
                    · refine lv_aload_n hx hb dL_counciled_328 rfl (lv_at hl 8 rfl) ?_
                      refine j_bi hx hb dL_counciled_329 rfl ?_
                      refine lv_iload hx hb dL_counciled_331 (lv_at hl 0 rfl) ?_
                      refine j_add hx hb dL_counciled_333 ?_
                      refine lv_iload hx hb dL_counciled_334 (lv_at hl 0 rfl) ?_
                      refine lv_iload hx hb dL_counciled_336 (lv_at hl 4 rfl) ?_
                      refine j_ine (tgt := 346) hx hb (by omega) (by omega) dL_counciled_338 (by decide) (fun c29 => ?_) (fun c29 => ?_)
                      · refine lv_aload_n hx hb dL_counciled_346 rfl (lv_at hl 8 rfl) ?_
                        refine j_bi hx hb dL_counciled_347 rfl ?_
                        refine lv_iload hx hb dL_counciled_349 (lv_at hl 0 rfl) ?_
                        refine j_add hx hb dL_counciled_351 ?_
                        refine Vld hx hb hK hW.1 (32 + i) (by omega) (by omega) dL_counciled_352 ?_
                        rw [show blk mu_24 37 (fun t : Nat => if (t : Int) = y then vi else m (32 + t)) i (32 + i) = m (32 + i) from by rw [blk_out (by omega), emu_24, up_ne (by omega), emu_20, up_ne (by omega)]]
                        refine Vst hx hb hK hW (37 + i) (by omega) (by omega) dL_counciled_353 (fun H locs hW => ?_)
                        have hW : Wd D (ad (lw2 cI ga va m (ed2 cL ea da ev dv wL))) (lw2 cI ga va (blk mu_24 37 (fun t : Nat => if (t : Int) = y then vi else m (32 + t)) (i + 1)) (ed2 cL ea da ev dv_22 wL)) s0.heap H locs := by
                          rw [show blk mu_24 37 (fun t : Nat => if (t : Int) = y then vi else m (32 + t)) (i + 1) = up (blk mu_24 37 (fun t : Nat => if (t : Int) = y then vi else m (32 + t)) i) (37 + i) (m (32 + i)) from by
                            rw [← blk_step]
                            exact congrArg (up (blk mu_24 37 (fun t : Nat => if (t : Int) = y then vi else m (32 + t)) i) (37 + i)) (show (fun t : Nat => if (t : Int) = y then vi else m (32 + t)) i = m (32 + i) from by show (if (i : Int) = y then vi else m (32 + i)) = m (32 + i); first | rw [if_pos (by omega)] | rw [if_neg (by omega)])]
                          exact hW
                        refine lv_iinc (v := iI ((i : Int) + 1)) (lv' := [(13, .int (iI ((i : Int) + 1))), (12, .int (iI (vi))), (10, .long (lI (m 6))), (9, .int (iI (nn))), (8, .int (iI (y))), (7, .int (iI (x))), (0, .ref (g 0)), (1, .ref (ga)), (2, .ref (va)), (3, .ref (ea)), (4, .ref (da)), (5, .int (iI (z))), (6, .int (iI (fo)))]) hx hb dL_counciled_354 hl (k := 0) rfl (iI_add _ _) (by decide) rfl (fun ls hl => ?_)
                        refine lv_goto (tgt := 322) hx hb dL_counciled_357 (by decide) ?_
                        exact ih322 (i + 1)   (by omega) (by omega) _ _ (hW) ls (lv_sub hl [0, 1, 2, 3, 4, 5, 6, 7, 8, 9, 10, 11, 12] rfl)
                      · refine lv_iload hx hb dL_counciled_341 (lv_at hl 1 rfl) ?_
                        refine lv_goto (tgt := 353) hx hb dL_counciled_343 (by decide) ?_
                        refine Vst hx hb hK hW (37 + i) (by omega) (by omega) dL_counciled_353 (fun H locs hW => ?_)
                        have hW : Wd D (ad (lw2 cI ga va m (ed2 cL ea da ev dv wL))) (lw2 cI ga va (blk mu_24 37 (fun t : Nat => if (t : Int) = y then vi else m (32 + t)) (i + 1)) (ed2 cL ea da ev dv_22 wL)) s0.heap H locs := by
                          rw [show blk mu_24 37 (fun t : Nat => if (t : Int) = y then vi else m (32 + t)) (i + 1) = up (blk mu_24 37 (fun t : Nat => if (t : Int) = y then vi else m (32 + t)) i) (37 + i) (vi) from by
                            rw [← blk_step]
                            exact congrArg (up (blk mu_24 37 (fun t : Nat => if (t : Int) = y then vi else m (32 + t)) i) (37 + i)) (show (fun t : Nat => if (t : Int) = y then vi else m (32 + t)) i = vi from by show (if (i : Int) = y then vi else m (32 + i)) = vi; first | rw [if_pos (by omega)] | rw [if_neg (by omega)])]
                          exact hW
                        refine lv_iinc (v := iI ((i : Int) + 1)) (lv' := [(13, .int (iI ((i : Int) + 1))), (12, .int (iI (vi))), (10, .long (lI (m 6))), (9, .int (iI (nn))), (8, .int (iI (y))), (7, .int (iI (x))), (0, .ref (g 0)), (1, .ref (ga)), (2, .ref (va)), (3, .ref (ea)), (4, .ref (da)), (5, .int (iI (z))), (6, .int (iI (fo)))]) hx hb dL_counciled_354 hl (k := 0) rfl (iI_add _ _) (by decide) rfl (fun ls hl => ?_)
                        refine lv_goto (tgt := 322) hx hb dL_counciled_357 (by decide) ?_
                        exact ih322 (i + 1)   (by omega) (by omega) _ _ (hW) ls (lv_sub hl [0, 1, 2, 3, 4, 5, 6, 7, 8, 9, 10, 11, 12] rfl)
                exact LP322 _ 0   (by omega) (Nat.lt_succ_self _) _ _ (by rw [blk_0]; exact hW) ls (lv_sub hl [0, 1, 2, 3, 4, 5, 6, 7, 8, 9, 10, 11, 12] rfl)
              · refine lv_aload_n hx hb dL_counciled_223 rfl (lv_at hl 3 rfl) ?_
                refine lv_iload hx hb dL_counciled_224 (lv_at hl 2 rfl) ?_
                refine lv_iload hx hb dL_counciled_226 (lv_at hl 1 rfl) ?_
                obtain ⟨wL1, hL1, cM, hI1⟩ := ac_change_no l D hL hI (x := x) (y := y) (by omega) (by omega) h_x (by omega) (by first | exact Or.inl (by omega) | exact Or.inr (Or.inl (fun q => by first | exact absurd q.1 (by assumption) | (have := q.2; omega))) | exact Or.inr (Or.inr (by omega)))
                refine m_callV (v := some (.int (iI ((-2))))) (ci := 5) (n := 2) (As := [.int (iI (x)), .int (iI (y))]) (rest := []) (st2 := [.int (iI ((-2)))]) (pre := lw2 cI ga va m (ed2 cL ea da ev dv [])) (post := []) (w2 := lw2 cI ga va m (ed2 cL ea da ev dv wL1)) ⟨hx, hb, hml, hown, hts⟩ hK2 hW (cM) (by rw [List.append_nil]; rfl) (by rw [List.append_nil]; rfl) (hL.fst hL1) rfl hL.head gL_counciled_X5_change rfl (by decide +kernel) ⟨Nat.le_of_ble_eq_true rfl, Nat.le_of_ble_eq_true rfl⟩ rfl hl.1 (Nat.le_of_ble_eq_true rfl) dL_counciled_228 ⟨Nat.zero_le _, Nat.zero_le _⟩ rfl rfl (fun H locs hW => ?_)
                refine j_bi hx hb dL_counciled_231 rfl ?_
                refine j_ine (tgt := 240) hx hb (by omega) (by omega) dL_counciled_233 (by decide) (fun c30 => absurd c30 (by decide)) (fun c30 => ?_)
                refine j_c hx hb dL_counciled_236 ?_
                refine lv_goto (tgt := 241) hx hb dL_counciled_237 (by decide) ?_
                exact e_zret hx hb hr hlocks hW (by exact ⟨m, ev, dv, wL1, hS, by omega, hL1, rfl⟩) (by first | decide | exact b2i_or) (by rfl) dL_counciled_241
    · refine lv_aload_n hx hb dL_counciled_156 rfl (lv_at hl 2 rfl) ?_
      refine lv_iload hx hb dL_counciled_157 (lv_at hl 1 rfl) ?_
      refine lv_iload hx hb dL_counciled_159 (lv_at hl 0 rfl) ?_
      obtain ⟨wL1, hL1, cM, hI1⟩ := ac_change_e l D hL hI (x := x) (y := y) (by omega) (by omega) (by omega)
      refine m_callV (v := some (.int (iI ((-1))))) (ci := 5) (n := 2) (As := [.int (iI (x)), .int (iI (y))]) (rest := []) (st2 := [.int (iI ((-1)))]) (pre := lw2 cI ga va m (ed2 cL ea da ev dv [])) (post := []) (w2 := lw2 cI ga va m (ed2 cL ea da ev dv wL1)) ⟨hx, hb, hml, hown, hts⟩ hK2 hW (cM) (by rw [List.append_nil]; rfl) (by rw [List.append_nil]; rfl) (hL.fst hL1) rfl hL.head gL_counciled_X5_change rfl (by decide +kernel) ⟨Nat.le_of_ble_eq_true rfl, Nat.le_of_ble_eq_true rfl⟩ rfl hl.1 (Nat.le_of_ble_eq_true rfl) dL_counciled_161 ⟨Nat.zero_le _, Nat.zero_le _⟩ rfl rfl (fun H locs hW => ?_)
      refine j_c hx hb dL_counciled_164 ?_
      refine j_ine (tgt := 172) hx hb (by omega) (by omega) dL_counciled_165 (by decide) (fun c31 => absurd c31 (by decide)) (fun c31 => ?_)
      refine j_c hx hb dL_counciled_168 ?_
      refine lv_goto (tgt := 173) hx hb dL_counciled_169 (by decide) ?_
      exact e_zret hx hb hr hlocks hW (by exact ⟨m, ev, dv, wL1, hS, by omega, hL1, rfl⟩) (by first | decide | exact b2i_or) (by rfl) dL_counciled_173
  · refine lv_aload_n hx hb dL_counciled_13 rfl (lv_at hl 2 rfl) ?_
    refine j_c hx hb dL_counciled_14 ?_
    refine Gld hx hb hK hW.1 (5) (by omega) (by omega) dL_counciled_15 ?_
    have r32 : bd (m 5) := hbd 5
    refine j_zlt (tgt := 29) hx hb (by omega) dL_counciled_16 (by decide) (fun c33 => ?_) (fun c33 => ?_)
    · refine lv_aload_n hx hb dL_counciled_29 rfl (lv_at hl 1 rfl) ?_
      refine lv_iload hx hb dL_counciled_30 (lv_at hl 0 rfl) ?_
      obtain ⟨wL1, hL1, cM, hI1⟩ := ac_forge_no l D hL hI (x := x) (by omega) h_x (by first | exact Or.inl (by omega) | exact Or.inr (by assumption))
      refine m_callV (v := some (.int (iI ((-2))))) (ci := 5) (n := 1) (As := [.int (iI (x))]) (rest := []) (st2 := [.int (iI ((-2)))]) (pre := lw2 cI ga va m (ed2 cL ea da ev dv [])) (post := []) (w2 := lw2 cI ga va m (ed2 cL ea da ev dv wL1)) ⟨hx, hb, hml, hown, hts⟩ hK2 hW (cM) (by rw [List.append_nil]; rfl) (by rw [List.append_nil]; rfl) (hL.fst hL1) rfl hL.head gL_counciled_X5_forge rfl (by decide +kernel) ⟨Nat.le_of_ble_eq_true rfl, Nat.le_of_ble_eq_true rfl⟩ rfl hl.1 (Nat.le_of_ble_eq_true rfl) dL_counciled_32 ⟨Nat.zero_le _, Nat.zero_le _⟩ rfl rfl (fun H locs hW => ?_)
      refine j_bi hx hb dL_counciled_35 rfl ?_
      refine j_ine (tgt := 44) hx hb (by omega) (by omega) dL_counciled_37 (by decide) (fun c34 => absurd c34 (by decide)) (fun c34 => ?_)
      refine j_c hx hb dL_counciled_40 ?_
      refine lv_goto (tgt := 45) hx hb dL_counciled_41 (by decide) ?_
      exact e_zret hx hb hr hlocks hW (by exact ⟨m, ev, dv, wL1, hS, by omega, hL1, rfl⟩) (by first | decide | exact b2i_or) (by rfl) dL_counciled_45
    · refine lv_aload_n hx hb dL_counciled_19 rfl (lv_at hl 2 rfl) ?_
      refine lv_aload_n hx hb dL_counciled_20 rfl (lv_at hl 3 rfl) ?_
      refine lv_iload hx hb dL_counciled_21 (lv_at hl 0 rfl) ?_
      refine pl_callS (v := .int (iI (b2i (seatL (fun i => m (32 + i)) x (m 1).toNat ≠ -9 ∨ seatL (fun i => m ((if m 5 ≠ -9 then (37 : Int) else 32).toNat + i)) x (m 1).toNat ≠ -9)))) (n := 3) (w := lw2 cI ga va m (ed2 cL ea da ev dv wL)) (As := [.ref (ga), .ref (va), .int (iI (x))]) (rest := []) ⟨hx, hb, hml, hown, hts⟩ hK (kL_isElder l D cI cV cL ga va (ed2 cL ea da ev dv wL) m hbd ⟨k1, k15⟩ h5 x (by omega)) hW.1 gL_counciled_L_isElder rfl (by decide +kernel) ⟨Nat.le_of_ble_eq_true rfl, Nat.le_of_ble_eq_true rfl⟩ rfl hl.1 (Nat.le_of_ble_eq_true rfl) dL_counciled_23 ⟨Nat.zero_le _, Nat.zero_le _⟩ rfl ?_
      refine j_beq (tgt := 46) hx hb dL_counciled_26 (by decide) (fun c35 => ?_) (fun c35 => ?_)
      · have h5n : m 5 ≠ -9 := by omega
        have f5 := hI.f5m h5n
        have hDl := hD (m 7 - 1).toNat (by omega)
        have hdl := hdv (m 7 - 1).toNat (by omega)
        unfold dE at hdl
        rw [show 224 + 5 * (m 7 - 1).toNat = 219 + 5 * (m 7).toNat by omega, show 226 + 5 * (m 7 - 1).toNat = 221 + 5 * (m 7).toNat by omega] at hDl hdl
        refine lv_aload hx hb dL_counciled_46 (lv_at hl 5 rfl) ?_
        refine lv_aload_n hx hb dL_counciled_48 rfl (lv_at hl 2 rfl) ?_
        refine j_bi hx hb dL_counciled_49 rfl ?_
        refine Gld hx hb hK hW.1 (7) (by omega) (by omega) dL_counciled_51 ?_
        have r36 : bd (m 7) := hbd 7
        refine j_c hx hb dL_counciled_52 ?_
        refine j_sub hx hb dL_counciled_53 ?_
        refine Ala hx hb hK hW.1 3 (j := (m 7 - 1).toNat) (f := dv) rfl (by omega) (by omega) (by omega) dL_counciled_54 ?_
        refine j_bi hx hb dL_counciled_55 rfl ?_
        refine j_lshr (q := 1048576) (k' := 20) (P := 1048576) hx hb (by omega) (by decide) (by decide) (by decide) dL_counciled_57 ?_
        refine j_ldc2 (n := 15) hx hb hown (hts (.constantLong RL 40 15) (by decide +kernel)) rfl dL_counciled_58 ?_
        refine j_land (q := 16) (s' := 4) (P := 16) hx hb (by omega) (by decide) (by decide) (by decide) (by decide) (by decide) dL_counciled_61 ?_
        refine j_l2i hx hb dL_counciled_62 ?_
        rw [show ((dv ((m 7 - 1).toNat)) / 1048576) % 16 = m (219 + 5 * (m 7).toNat) from by omega]
        refine lv_istore (lv' := [(8, .int (iI (m (219 + 5 * (m 7).toNat)))), (7, .int (iI (x))), (0, .ref (g 0)), (1, .ref (ga)), (2, .ref (va)), (3, .ref (ea)), (4, .ref (da)), (5, .int (iI (z))), (6, .int (iI (fo)))]) hx hb dL_counciled_63 hl (by decide) rfl (fun ls hl => ?_)
        refine lv_aload hx hb dL_counciled_65 (lv_at hl 6 rfl) ?_
        refine lv_aload_n hx hb dL_counciled_67 rfl (lv_at hl 3 rfl) ?_
        refine j_bi hx hb dL_counciled_68 rfl ?_
        refine Gld hx hb hK hW.1 (7) (by omega) (by omega) dL_counciled_70 ?_
        have r37 : bd (m 7) := hbd 7
        refine j_c hx hb dL_counciled_71 ?_
        refine j_sub hx hb dL_counciled_72 ?_
        refine Ala hx hb hK hW.1 3 (j := (m 7 - 1).toNat) (f := dv) rfl (by omega) (by omega) (by omega) dL_counciled_73 ?_
        refine j_bi hx hb dL_counciled_74 rfl ?_
        refine j_lshr (q := 268435456) (k' := 28) (P := 268435456) hx hb (by omega) (by decide) (by decide) (by decide) dL_counciled_76 ?_
        refine j_l2i hx hb dL_counciled_77 ?_
        rw [show (dv ((m 7 - 1).toNat)) / 268435456 = m (221 + 5 * (m 7).toNat) from by omega]
        refine lv_istore (lv' := [(9, .int (iI (m (221 + 5 * (m 7).toNat)))), (8, .int (iI (m (219 + 5 * (m 7).toNat)))), (7, .int (iI (x))), (0, .ref (g 0)), (1, .ref (ga)), (2, .ref (va)), (3, .ref (ea)), (4, .ref (da)), (5, .int (iI (z))), (6, .int (iI (fo)))]) hx hb dL_counciled_78 hl (by decide) rfl (fun ls hl => ?_)
        refine lv_aload hx hb dL_counciled_80 (lv_at hl 7 rfl) ?_
        refine lv_aload_n hx hb dL_counciled_82 rfl (lv_at hl 4 rfl) ?_
        refine j_bi hx hb dL_counciled_83 rfl ?_
        refine Gld hx hb hK hW.1 (7) (by omega) (by omega) dL_counciled_85 ?_
        have r38 : bd (m 7) := hbd 7
        refine j_c hx hb dL_counciled_86 ?_
        refine j_sub hx hb dL_counciled_87 ?_
        refine lv_dup2_11 hx hb dL_counciled_88 rfl rfl ?_
        refine Ala hx hb hK hW.1 3 (j := (m 7 - 1).toNat) (f := dv) rfl (by omega) (by omega) (by omega) dL_counciled_89 ?_
        refine lv_iload hx hb dL_counciled_90 (lv_at hl 2 rfl) ?_
        refine lv_iload hx hb dL_counciled_92 (lv_at hl 1 rfl) ?_
        refine j_sub hx hb dL_counciled_94 ?_
        refine j_i2l hx hb (by omega) dL_counciled_95 ?_
        refine j_bi hx hb dL_counciled_96 rfl ?_
        refine j_lshl (q := 1048576) (k' := 20) hx hb (by decide) (by decide) (by decide) dL_counciled_98 ?_
        refine j_ladd hx hb dL_counciled_99 ?_
        refine Lst hx hb hK hW 3 (f := dv) rfl ((m 7 - 1).toNat) (by omega) (by omega) dL_counciled_100 (lw2 cI ga va m (ed2 cL ea da ev (up dv ((m 7 - 1).toNat) ((dv ((m 7 - 1).toNat)) + ((x - (m (219 + 5 * (m 7).toNat))) * 1048576))) wL)) rfl (fun H locs hW => ?_)
        obtain ⟨dv_39, edv_39⟩ : ∃ zz_, zz_ = up dv ((m 7 - 1).toNat) ((dv ((m 7 - 1).toNat)) + ((x - (m (219 + 5 * (m 7).toNat))) * 1048576)) := ⟨_, rfl⟩
        rw [← edv_39] at hW
        refine lv_aload_n hx hb dL_counciled_101 rfl (lv_at hl 5 rfl) ?_
        refine j_bi hx hb dL_counciled_102 rfl ?_
        refine lv_iload hx hb dL_counciled_104 (lv_at hl 0 rfl) ?_
        refine j_add hx hb dL_counciled_106 ?_
        refine lv_iload hx hb dL_counciled_107 (lv_at hl 2 rfl) ?_
        refine Vst hx hb hK hW (37 + ((m (221 + 5 * (m 7).toNat)).toNat)) (by omega) (by omega) dL_counciled_109 (fun H locs hW => ?_)
        obtain ⟨mu_40, emu_40⟩ : ∃ zz_, zz_ = up m (37 + ((m (221 + 5 * (m 7).toNat)).toNat)) (x) := ⟨_, rfl⟩
        rw [← emu_40] at hW
        have cF : ¬ (m 5 = -9 ∨ (seatL (fun i => m (32 + i)) x (m 1).toNat ≠ -9 ∨ seatL (fun i => m ((if m 5 ≠ -9 then (37 : Int) else 32).toNat + i)) x (m 1).toNat ≠ -9)) := fun q => q.elim (fun q => h5n q) (fun q => absurd q (by assumption))
        obtain ⟨W, eW⟩ : ∃ W, W = up (up m (219 + 5 * (m 7).toNat) x) (37 + (m (221 + 5 * (m 7).toNat)).toNat) x := ⟨_, rfl⟩
        have hIW := forge_inv hI h_x cF
        have hSW := SV_fg hS hIW h_x h5n
        rw [← edv_39, ← eW] at hSW
        have hW : Wd D (ad (lw2 cI ga va m (ed2 cL ea da ev dv wL))) (lw2 cI ga va W (ed2 cL ea da ev dv_39 wL)) s0.heap H locs := by
          rw [lw2_congr (m := W) (m' := mu_40) (fun j hj => by rw [eW, emu_40]; exact (if q : j = 37 + (m (221 + 5 * (m 7).toNat)).toNat then (by rw [up_at q, up_at q]) else (by rw [up_ne q, up_ne q, up_ne (by omega)])))]
          exact hW
        have g4 := mg_MS (W 3 - W 4).toNat hSW.1.1 hSW.1.2.1
        have g5 := mg_rg hSW.1.1 hSW.1.2.1 (W 3 - W 4).toNat
        have gs := SV_mg (W 3 - W 4).toNat hSW
        have w3 : W 3 = m 3 := by rw [eW, up_ne (by omega), up_ne (by omega)]
        refine lv_aload_n hx hb dL_counciled_110 rfl (lv_at hl 4 rfl) ?_
        refine lv_aload_n hx hb dL_counciled_111 rfl (lv_at hl 5 rfl) ?_
        refine e_callS (v := some (.int (iI (mgS (W 3 - W 4).toNat W 4 - W 4)))) (n := 2) (As := [.ref (ga), .ref (va)]) (rest := []) (st2 := [.int (iI (mgS (W 3 - W 4).toNat W 4 - W 4))]) (pre := []) (post := ed2 cL ea da ev dv_39 wL) ⟨hx, hb, hml, hown, hts⟩ hK hW (kL_agree l D cI cV cL ga va W hSW.1 hSW.2.1.2.2.2) rfl (fun w' e => by subst e; rfl) gL_counciled_L_agree rfl (by decide +kernel) ⟨Nat.le_of_ble_eq_true rfl, Nat.le_of_ble_eq_true rfl⟩ rfl hl.1 (Nat.le_of_ble_eq_true rfl) dL_counciled_112 ⟨Nat.zero_le _, Nat.zero_le _⟩ rfl rfl (fun w_ H locs hR_ hW => ?_)
        subst hR_
        have hW : Wd D (ad (lw2 cI ga va m (ed2 cL ea da ev dv wL))) (lw2 cI ga va (mgS (W 3 - W 4).toNat W) (ed2 cL ea da ev dv_39 wL)) s0.heap H locs := hW
        refine lv_istore (lv' := [(10, .int (iI (mgS (W 3 - W 4).toNat W 4 - W 4))), (9, .int (iI (m (221 + 5 * (m 7).toNat)))), (8, .int (iI (m (219 + 5 * (m 7).toNat)))), (7, .int (iI (x))), (0, .ref (g 0)), (1, .ref (ga)), (2, .ref (va)), (3, .ref (ea)), (4, .ref (da)), (5, .int (iI (z))), (6, .int (iI (fo)))]) hx hb dL_counciled_115 hl (by decide) rfl (fun ls hl => ?_)
        refine lv_iload hx hb dL_counciled_117 (lv_at hl 0 rfl) ?_
        refine j_zlt (tgt := 137) hx hb (by omega) dL_counciled_119 (by decide) (fun c42 => absurd c42 (by omega)) (fun c42 => ?_)
        refine lv_aload_n hx hb dL_counciled_122 rfl (lv_at hl 4 rfl) ?_
        refine lv_iload hx hb dL_counciled_123 (lv_at hl 3 rfl) ?_
        obtain ⟨wL1, hL1, cM, hI1⟩ := ac_forge l D hL hI (x := x) (by omega) h_x cF hIW
        rw [← eW] at hL1
        refine m_callV (v := some (.int (iI (m (219 + 5 * (m 7).toNat))))) (ci := 5) (n := 1) (As := [.int (iI (x))]) (rest := []) (st2 := [.int (iI (m (219 + 5 * (m 7).toNat)))]) (pre := lw2 cI ga va (mgS (W 3 - W 4).toNat W) (ed2 cL ea da ev dv_39 [])) (post := []) (w2 := lw2 cI ga va (mgS (W 3 - W 4).toNat W) (ed2 cL ea da ev dv_39 wL1)) ⟨hx, hb, hml, hown, hts⟩ hK2 hW (cM) (by rw [List.append_nil]; rfl) (by rw [List.append_nil]; rfl) (hL.fst hL1) rfl hL.head gL_counciled_X5_forge rfl (by decide +kernel) ⟨Nat.le_of_ble_eq_true rfl, Nat.le_of_ble_eq_true rfl⟩ rfl hl.1 (Nat.le_of_ble_eq_true rfl) dL_counciled_125 ⟨Nat.zero_le _, Nat.zero_le _⟩ rfl rfl (fun H locs hW => ?_)
        refine lv_iload hx hb dL_counciled_128 (lv_at hl 2 rfl) ?_
        refine j_ine (tgt := 137) hx hb (by omega) (by omega) dL_counciled_130 (by decide) (fun c43 => absurd c43 (by omega)) (fun c43 => ?_)
        refine j_c hx hb dL_counciled_133 ?_
        refine lv_goto (tgt := 138) hx hb dL_counciled_134 (by decide) ?_
        exact e_zret hx hb hr hlocks hW (by exact ⟨mgS (W 3 - W 4).toNat W, ev, dv_39, wL1, gs.1, by omega, hL1, rfl⟩) (by first | decide | exact b2i_or) (by rfl) dL_counciled_138
      · refine lv_aload_n hx hb dL_counciled_29 rfl (lv_at hl 1 rfl) ?_
        refine lv_iload hx hb dL_counciled_30 (lv_at hl 0 rfl) ?_
        obtain ⟨wL1, hL1, cM, hI1⟩ := ac_forge_no l D hL hI (x := x) (by omega) h_x (by first | exact Or.inl (by omega) | exact Or.inr (by assumption))
        refine m_callV (v := some (.int (iI ((-2))))) (ci := 5) (n := 1) (As := [.int (iI (x))]) (rest := []) (st2 := [.int (iI ((-2)))]) (pre := lw2 cI ga va m (ed2 cL ea da ev dv [])) (post := []) (w2 := lw2 cI ga va m (ed2 cL ea da ev dv wL1)) ⟨hx, hb, hml, hown, hts⟩ hK2 hW (cM) (by rw [List.append_nil]; rfl) (by rw [List.append_nil]; rfl) (hL.fst hL1) rfl hL.head gL_counciled_X5_forge rfl (by decide +kernel) ⟨Nat.le_of_ble_eq_true rfl, Nat.le_of_ble_eq_true rfl⟩ rfl hl.1 (Nat.le_of_ble_eq_true rfl) dL_counciled_32 ⟨Nat.zero_le _, Nat.zero_le _⟩ rfl rfl (fun H locs hW => ?_)
        refine j_bi hx hb dL_counciled_35 rfl ?_
        refine j_ine (tgt := 44) hx hb (by omega) (by omega) dL_counciled_37 (by decide) (fun c44 => absurd c44 (by decide)) (fun c44 => ?_)
        refine j_c hx hb dL_counciled_40 ?_
        refine lv_goto (tgt := 45) hx hb dL_counciled_41 (by decide) ?_
        exact e_zret hx hb hr hlocks hW (by exact ⟨m, ev, dv, wL1, hS, by omega, hL1, rfl⟩) (by first | decide | exact b2i_or) (by rfl) dL_counciled_45
