/-! the law: its end, its loops -/
set_option maxHeartbeats 4000000 in
set_option maxRecDepth 100000 in
theorem law_tail {p : Program} {e : Env} {s0 : State} {mi : MethodId} {below : List Frame} {meth : Method} {c : Code} (l : Launch) {b L : Nat} {xs : Nat → Int32} (hL : L ≤ 260) (C0 : lw_At p s0 mi meth c b L xs) {D : va_G} {cI cV cL : ClassId} {g a : Nat → Nat} {ra : Nat → Nat → Nat} {ga va ea da : Nat} (hK : va_K D vwCl (kl cI cV cL) s0) {t : Int} {w : va_W} {H : Heap} {locs : List Loc} {ls : Array Slot} {x7 x8 : Int} (hS : LSt cI cV cL g a ra ga va ea da t w) (hW : Wd D (fun q : Nat => s0.heap.size ≤ q) w s0.heap H locs) (hl : lv_has ls 9 [(0, .ref (b)), (1, .ref (g 0)), (2, .ref (ga)), (3, .ref (va)), (4, .ref (ea)), (5, .ref (da)), (6, .int (iI (1))), (7, .int (iI (x7))), (8, .int (iI (x8)))]) : W p l e room_1 s0 mi #[Value.ref b] below meth c H locs 600000 7302250 (lw_Z below #[Value.ref b] s0) (F0 mi 214 ls []) := by
  obtain ⟨hx, hb, hr, hml, hown, hts0, hX, hbl, hlocks, hgv⟩ := id C0
  have hts : ∀ w ∈ wsL_law, w.before #[Value.ref b] s0 = true := fun w h => hts0 w (wsL_law_in w h)
  have hbA : ¬ (fun q : Nat => s0.heap.size ≤ q) b := Nat.not_le.mpr hbl
  have hown : s0.vm.findClass RL = some mi.cls := hown
  have hK2 : va_K D vwCl (kt cI cV) s0 := hK.sub [0, 1] rfl
  obtain ⟨m, ev, dv, wL, hSV, -, hLW, rfl⟩ := hS
  refine lv_iload hx hb dL_law_214 (lv_at hl 6 rfl) ?_
  refine j_zeq (tgt := 252) hx hb (by decide) dL_law_216 (by decide) (fun h => absurd h (by decide)) (fun _ => ?_)
  refine lv_aload_n hx hb dL_law_219 rfl (lv_at hl 1 rfl) ?_
  refine j_bi hx hb dL_law_220 rfl ?_
  refine p_callV (v := .int (iI ((-1)))) (ci := 5) (n := 1) (As := [.int (iI (12))]) (rest := []) ⟨hx, hb, hml, hown, hts⟩ hK2 (an_count_12 l D hLW hSV.1) (va_P.mid (pre := lw2 cI ga va m (ed2 cL ea da ev dv [])) (wc := wL) (post := []) (by rw [List.append_nil]; exact hW.1)) rfl hLW.head gL_law_X5_count rfl (by decide +kernel) ⟨Nat.le_of_ble_eq_true rfl, Nat.le_of_ble_eq_true rfl⟩ rfl hl.1 (Nat.le_of_ble_eq_true rfl) dL_law_222 ⟨Nat.le_refl _, Nat.le_refl _⟩ rfl ?_
  refine j_c hx hb dL_law_225 ?_
  refine j_ine (tgt := 252) hx hb (by omega) (by omega) dL_law_226 (by decide) (fun c2 => absurd c2 (by decide)) (fun c2 => ?_)
  refine lv_aload_n hx hb dL_law_229 rfl (lv_at hl 1 rfl) ?_
  refine j_c hx hb dL_law_230 ?_
  refine p_callV (v := .int (iI ((-1)))) (ci := 5) (n := 1) (As := [.int (iI ((-1)))]) (rest := []) ⟨hx, hb, hml, hown, hts⟩ hK2 (an_count_n l D hLW hSV.1) (va_P.mid (pre := lw2 cI ga va m (ed2 cL ea da ev dv [])) (wc := wL) (post := []) (by rw [List.append_nil]; exact hW.1)) rfl hLW.head gL_law_X5_count rfl (by decide +kernel) ⟨Nat.le_of_ble_eq_true rfl, Nat.le_of_ble_eq_true rfl⟩ rfl hl.1 (Nat.le_of_ble_eq_true rfl) dL_law_231 ⟨Nat.le_refl _, Nat.le_refl _⟩ rfl ?_
  refine j_c hx hb dL_law_234 ?_
  refine j_ine (tgt := 252) hx hb (by omega) (by omega) dL_law_235 (by decide) (fun c3 => absurd c3 (by decide)) (fun c3 => ?_)
  refine lv_aload_n hx hb dL_law_238 rfl (lv_at hl 1 rfl) ?_
  refine j_c hx hb dL_law_239 ?_
  refine j_c hx hb dL_law_240 ?_
  refine p_callV (v := .int (iI ((-1)))) (ci := 5) (n := 2) (As := [.int (iI (0)), .int (iI (5))]) (rest := []) ⟨hx, hb, hml, hown, hts⟩ hK2 (an_villager_q l D hLW hSV.1) (va_P.mid (pre := lw2 cI ga va m (ed2 cL ea da ev dv [])) (wc := wL) (post := []) (by rw [List.append_nil]; exact hW.1)) rfl hLW.head gL_law_X5_villager rfl (by decide +kernel) ⟨Nat.le_of_ble_eq_true rfl, Nat.le_of_ble_eq_true rfl⟩ rfl hl.1 (Nat.le_of_ble_eq_true rfl) dL_law_241 ⟨Nat.le_refl _, Nat.le_refl _⟩ rfl ?_
  refine j_c hx hb dL_law_244 ?_
  refine j_ine (tgt := 252) hx hb (by omega) (by omega) dL_law_245 (by decide) (fun c4 => absurd c4 (by decide)) (fun c4 => ?_)
  refine j_c hx hb dL_law_248 ?_
  refine lv_goto (tgt := 253) hx hb dL_law_249 (by decide) ?_
  refine va_forget (fun q hq => hW.2.2.2.2 q hq) ?_
  exact lw_ret hx hb hr hlocks dL_law_253
set_option maxHeartbeats 4000000 in
set_option maxRecDepth 100000 in
theorem law_loop2 {p : Program} {e : Env} {s0 : State} {mi : MethodId} {below : List Frame} {meth : Method} {c : Code} (l : Launch) {b L : Nat} {xs : Nat → Int32} (hL : L ≤ 260) (C0 : lw_At p s0 mi meth c b L xs) {D : va_G} {cI cV cL : ClassId} {g a : Nat → Nat} {ra : Nat → Nat → Nat} {ga va ea da : Nat} (hK : va_K D vwCl (kl cI cV cL) s0) {tu : Int} (htu : 8 ≤ tu ∧ tu < 52) : ∀ (fu : Nat) (i : Nat), (i : Int) ≤ tu → tu.toNat - i < fu → ∀ (w : va_W) (H : Heap) (locs : List Loc), LSt cI cV cL g a ra ga va ea da (8 + (i : Int)) w → Wd D (fun q : Nat => s0.heap.size ≤ q) w s0.heap H locs → ∀ ls : Array Slot, lv_has ls 9 [(0, .ref (b)), (1, .ref (g 0)), (2, .ref (ga)), (3, .ref (va)), (4, .ref (ea)), (5, .ref (da)), (6, .int (iI (1))), (7, .int (iI (tu))), (8, .int (iI ((i : Int))))] → W p l e room_1 s0 mi #[Value.ref b] below meth c H locs 600000 7302250 (lw_Z below #[Value.ref b] s0) (F0 mi 147 ls []) := by
  obtain ⟨hx, hb, hr, hml, hown, hts0, hX, hbl, hlocks, hgv⟩ := id C0
  have hts : ∀ w ∈ wsL_law, w.before #[Value.ref b] s0 = true := fun w h => hts0 w (wsL_law_in w h)
  have hbA : ¬ (fun q : Nat => s0.heap.size ≤ q) b := Nat.not_le.mpr hbl
  have hown : s0.vm.findClass RL = some mi.cls := hown
  have hK2 : va_K D vwCl (kt cI cV) s0 := hK.sub [0, 1] rfl
  intro fu
  induction fu with
  | zero =>
    intros
    omega
  | succ fu ih =>
    intro i hi hm w H locs hS hW ls hl
    obtain ⟨m, ev, dv, wL, hSV, htt, hLW, rfl⟩ := hS
    obtain ⟨tt, ett⟩ : ∃ tt : Int, tt = 8 + (i : Int) := ⟨_, rfl⟩
    rw [← ett] at htt
    refine lv_iload hx hb dL_law_147 (lv_at hl 8 rfl) ?_
    refine lv_iload hx hb dL_law_149 (lv_at hl 7 rfl) ?_
    refine j_ige (tgt := 214) hx hb (by omega) (by omega) dL_law_151 (by decide) (fun c1 => ?_) (fun c1 => ?_)
    · exact law_tail l hL C0 hK ⟨m, ev, dv, wL, hSV, htt, hLW, rfl⟩ hW (lv_sub hl [0, 1, 2, 3, 4, 5, 6, 7, 8] rfl)
    · refine lv_iload hx hb dL_law_154 (lv_at hl 6 rfl) ?_
      refine j_zeq (tgt := 214) hx hb (by decide) dL_law_156 (by decide) (fun h => absurd h (by decide)) (fun _ => ?_)
      refine lv_aload_n hx hb dL_law_159 rfl (lv_at hl 1 rfl) ?_
      refine lv_aload_n hx hb dL_law_160 rfl (lv_at hl 2 rfl) ?_
      refine lv_aload_n hx hb dL_law_161 rfl (lv_at hl 3 rfl) ?_
      refine lv_aload hx hb dL_law_162 (lv_at hl 4 rfl) ?_
      refine lv_aload hx hb dL_law_164 (lv_at hl 5 rfl) ?_
      refine lv_aload_n hx hb dL_law_166 rfl (lv_at hl 0 rfl) ?_
      refine j_bi hx hb dL_law_167 rfl ?_
      refine lv_iload hx hb dL_law_169 (lv_at hl 8 rfl) ?_
      refine j_add hx hb dL_law_171 ?_
      refine x_callS (v := .int (iI (cellV L xs (9 + (i : Int))))) (n := 2) (As := [.ref (b), .int (iI (9 + (i : Int)))]) (rest := [.ref (da), .ref (ea), .ref (va), .ref (ga), .ref (g 0)]) ⟨hx, hb, hml, hown, hts⟩ (kL_cell l hL (k := 9 + (i : Int)) (by omega)) (va_X.kept hX (hW.2.2.2.1 b hbl hbA)) (Nat.lt_of_lt_of_le hbl hW.2.2.1) gL_law_L_cell rfl (by decide +kernel) ⟨Nat.le_of_ble_eq_true rfl, Nat.le_of_ble_eq_true rfl⟩ rfl hl.1 (Nat.le_of_ble_eq_true rfl) dL_law_172 ⟨Nat.le_refl _, Nat.le_refl _⟩ rfl ?_
      have cr3 := cellV_rg (L := L) (xs := xs) (k := 9 + (i : Int))
      refine j_si hx hb dL_law_175 rfl ?_
      refine lv_iload hx hb dL_law_178 (lv_at hl 8 rfl) ?_
      refine j_mul hx hb dL_law_180 ?_
      refine lv_ixor hx hb dL_law_181 (j_any hx hb ?_)
      obtain ⟨q4, eq4⟩ : ∃ zz_ : Int, zz_ = (iI (cellV L xs (9 + (i : Int))) ^^^ iI (7919 * (i : Int))).toInt := ⟨_, rfl⟩
      rw [← eq4]
      have rq4 : rg q4 := eq4 ▸ rg_of _
      refine e_callS (v := some (.int (iI (1)))) (n := 6) (As := [.ref (g 0), .ref (ga), .ref (va), .ref (ea), .ref (da), .int (iI (q4))]) (rest := []) (st2 := [.int (iI (1))]) (pre := []) (post := []) ⟨hx, hb, hml, hown, hts⟩ hK hW (kL_acts l D cI cV cL ga va ea da g a ra m ev dv wL tt hSV hLW htt (by omega) q4 (by omega)) (by rw [List.append_nil]; rfl) (fun _ e => LSt.fst hLW e) gL_law_L_acts rfl (by decide +kernel) ⟨Nat.le_of_ble_eq_true rfl, Nat.le_of_ble_eq_true rfl⟩ rfl hl.1 (Nat.le_of_ble_eq_true rfl) dL_law_182 ⟨Nat.le_refl _, Nat.le_refl _⟩ rfl rfl (fun w_ H locs hR_ hW => ?_)
      rw [List.append_nil] at hW
      obtain ⟨m, ev, dv, wL, hSV, htt2, hLW, rfl⟩ := hR_
      have hW : Wd D (fun q : Nat => s0.heap.size ≤ q) (lw2 cI ga va m (ed2 cL ea da ev dv wL)) s0.heap H locs := hW
      refine j_zeq (tgt := 205) hx hb (by decide) dL_law_185 (by decide) (fun h => absurd h (by decide)) (fun _ => ?_)
      refine lv_aload_n hx hb dL_law_188 rfl (lv_at hl 1 rfl) ?_
      refine lv_aload_n hx hb dL_law_189 rfl (lv_at hl 2 rfl) ?_
      refine lv_aload_n hx hb dL_law_190 rfl (lv_at hl 3 rfl) ?_
      refine lv_aload hx hb dL_law_191 (lv_at hl 4 rfl) ?_
      refine lv_aload hx hb dL_law_193 (lv_at hl 5 rfl) ?_
      refine pl_callS (v := .int (iI (1))) (n := 5) (w := lw2 cI ga va m (ed2 cL ea da ev dv wL)) (As := [.ref (g 0), .ref (ga), .ref (va), .ref (ea), .ref (da)]) (rest := []) ⟨hx, hb, hml, hown, hts⟩ hK (kL_isSo l D cI cV cL ga va ea da g a ra m ev dv wL hSV hLW) hW.1 gL_law_L_isSo rfl (by decide +kernel) ⟨Nat.le_of_ble_eq_true rfl, Nat.le_of_ble_eq_true rfl⟩ rfl hl.1 (Nat.le_of_ble_eq_true rfl) dL_law_195 ⟨Nat.le_refl _, Nat.le_refl _⟩ rfl ?_
      refine j_zeq (tgt := 205) hx hb (by decide) dL_law_198 (by decide) (fun h => absurd h (by decide)) (fun _ => ?_)
      refine j_c hx hb dL_law_201 ?_
      refine lv_goto (tgt := 206) hx hb dL_law_202 (by decide) ?_
      refine lv_istore (lv' := [(6, .int (iI (1))), (0, .ref (b)), (1, .ref (g 0)), (2, .ref (ga)), (3, .ref (va)), (4, .ref (ea)), (5, .ref (da)), (7, .int (iI (tu))), (8, .int (iI ((i : Int))))]) hx hb dL_law_206 hl (by decide) rfl (fun ls hl => ?_)
      refine lv_iinc (v := iI ((i : Int) + 1)) (lv' := [(8, .int (iI ((i : Int) + 1))), (6, .int (iI (1))), (0, .ref (b)), (1, .ref (g 0)), (2, .ref (ga)), (3, .ref (va)), (4, .ref (ea)), (5, .ref (da)), (7, .int (iI (tu)))]) hx hb dL_law_208 hl (k := 8) rfl (iI_add _ _) (by decide) rfl (fun ls hl => ?_)
      refine lv_goto (tgt := 147) hx hb dL_law_211 (by decide) ?_
      exact ih (i + 1) (by omega) (by omega) _ H locs ⟨m, ev, dv, wL, hSV, by omega, hLW, rfl⟩ hW ls (lv_sub hl [2, 3, 4, 5, 6, 7, 1, 8, 0] rfl)
set_option maxHeartbeats 4000000 in
set_option maxRecDepth 100000 in
theorem law_loop1 {p : Program} {e : Env} {s0 : State} {mi : MethodId} {below : List Frame} {meth : Method} {c : Code} (l : Launch) {b L : Nat} {xs : Nat → Int32} (hL : L ≤ 260) (C0 : lw_At p s0 mi meth c b L xs) {D : va_G} {cI cV cL : ClassId} {g a : Nat → Nat} {ra : Nat → Nat → Nat} {ga va ea da : Nat} (hK : va_K D vwCl (kl cI cV cL) s0) : ∀ (fu : Nat) (i : Nat), (i : Int) ≤ 8 → 8 - i < fu → ∀ (w : va_W) (H : Heap) (locs : List Loc), LSt cI cV cL g a ra ga va ea da (i : Int) w → Wd D (fun q : Nat => s0.heap.size ≤ q) w s0.heap H locs → ∀ ls : Array Slot, lv_has ls 9 [(0, .ref (b)), (1, .ref (g 0)), (2, .ref (ga)), (3, .ref (va)), (4, .ref (ea)), (5, .ref (da)), (6, .int (iI (1))), (7, .int (iI ((i : Int))))] → W p l e room_1 s0 mi #[Value.ref b] below meth c H locs 600000 7302250 (lw_Z below #[Value.ref b] s0) (F0 mi 55 ls []) := by
  obtain ⟨hx, hb, hr, hml, hown, hts0, hX, hbl, hlocks, hgv⟩ := id C0
  have hts : ∀ w ∈ wsL_law, w.before #[Value.ref b] s0 = true := fun w h => hts0 w (wsL_law_in w h)
  have hbA : ¬ (fun q : Nat => s0.heap.size ≤ q) b := Nat.not_le.mpr hbl
  have hown : s0.vm.findClass RL = some mi.cls := hown
  have hK2 : va_K D vwCl (kt cI cV) s0 := hK.sub [0, 1] rfl
  intro fu
  induction fu with
  | zero =>
    intros
    omega
  | succ fu ih =>
    intro i hi hm w H locs hS hW ls hl
    obtain ⟨m, ev, dv, wL, hSV, htt, hLW, rfl⟩ := hS
    obtain ⟨tt, ett⟩ : ∃ tt : Int, tt = (i : Int) := ⟨_, rfl⟩
    rw [← ett] at htt
    refine lv_iload hx hb dL_law_55 (lv_at hl 7 rfl) ?_
    refine j_bi hx hb dL_law_57 rfl ?_
    refine j_ige (tgt := 129) hx hb (by omega) (by omega) dL_law_59 (by decide) (fun c1 => ?_) (fun c1 => ?_)
    · have i8 : (i : Int) = 8 := by omega
      refine j_bi hx hb dL_law_129 rfl ?_
      refine lv_aload_n hx hb dL_law_131 rfl (lv_at hl 0 rfl) ?_
      refine j_c hx hb dL_law_132 ?_
      refine x_callS (v := .int (iI (cellV L xs 0))) (n := 2) (As := [.ref (b), .int (iI (0))]) (rest := [.int (iI (8))]) ⟨hx, hb, hml, hown, hts⟩ (kL_cell l hL (k := 0) (by omega)) (va_X.kept hX (hW.2.2.2.1 b hbl hbA)) (Nat.lt_of_lt_of_le hbl hW.2.2.1) gL_law_L_cell rfl (by decide +kernel) ⟨Nat.le_of_ble_eq_true rfl, Nat.le_of_ble_eq_true rfl⟩ rfl hl.1 (Nat.le_of_ble_eq_true rfl) dL_law_133 ⟨Nat.le_refl _, Nat.le_refl _⟩ rfl ?_
      have cr2 := cellV_rg (L := L) (xs := xs) (k := 0)
      refine j_bi hx hb dL_law_136 rfl ?_
      refine pl_callS (v := .int (iI (lowV (cellV L xs 0) 44))) (n := 2) (w := []) (As := [.int (iI (cellV L xs 0)), .int (iI (44))]) (rest := [.int (iI (8))]) ⟨hx, hb, hml, hown, hts⟩ hK (kL_low l D cI cV cL (cellV L xs 0) 44 (by omega) (by decide)) (fun k q h => by simp at h) gL_law_L_low rfl (by decide +kernel) ⟨Nat.le_of_ble_eq_true rfl, Nat.le_of_ble_eq_true rfl⟩ rfl hl.1 (Nat.le_of_ble_eq_true rfl) dL_law_138 ⟨Nat.le_refl _, Nat.le_refl _⟩ rfl ?_
      refine j_add hx hb dL_law_141 ?_
      have hlo := lowV_rg (v := cellV L xs 0) (n := 44) (by decide)
      obtain ⟨tu, etu⟩ : ∃ zz_ : Int, zz_ = 8 + (lowV (cellV L xs 0) 44) := ⟨_, rfl⟩
      rw [← etu]
      refine lv_istore (lv' := [(7, .int (iI (tu))), (0, .ref (b)), (1, .ref (g 0)), (2, .ref (ga)), (3, .ref (va)), (4, .ref (ea)), (5, .ref (da)), (6, .int (iI (1)))]) hx hb dL_law_142 hl (by decide) rfl (fun ls hl => ?_)
      refine j_c hx hb dL_law_144 ?_
      refine lv_istore (lv' := [(8, .int (iI (0))), (7, .int (iI (tu))), (0, .ref (b)), (1, .ref (g 0)), (2, .ref (ga)), (3, .ref (va)), (4, .ref (ea)), (5, .ref (da)), (6, .int (iI (1)))]) hx hb dL_law_145 hl (by decide) rfl (fun ls hl => ?_)
      exact law_loop2 l hL C0 hK (tu := tu) (by omega) (tu.toNat + 1) 0 (by omega) (by omega) _ H locs ⟨m, ev, dv, wL, hSV, by omega, hLW, rfl⟩ hW ls (lv_sub hl [2, 3, 4, 5, 6, 7, 8, 1, 0] rfl)
    · refine lv_iload hx hb dL_law_62 (lv_at hl 6 rfl) ?_
      refine j_zeq (tgt := 129) hx hb (by decide) dL_law_64 (by decide) (fun h => absurd h (by decide)) (fun _ => ?_)
      refine lv_aload_n hx hb dL_law_67 rfl (lv_at hl 1 rfl) ?_
      refine lv_aload_n hx hb dL_law_68 rfl (lv_at hl 2 rfl) ?_
      refine lv_aload_n hx hb dL_law_69 rfl (lv_at hl 3 rfl) ?_
      refine lv_aload hx hb dL_law_70 (lv_at hl 4 rfl) ?_
      refine lv_aload hx hb dL_law_72 (lv_at hl 5 rfl) ?_
      refine lv_aload_n hx hb dL_law_74 rfl (lv_at hl 0 rfl) ?_
      refine j_c hx hb dL_law_75 ?_
      refine lv_iload hx hb dL_law_76 (lv_at hl 7 rfl) ?_
      refine j_add hx hb dL_law_78 ?_
      refine x_callS (v := .int (iI (cellV L xs (1 + (i : Int))))) (n := 2) (As := [.ref (b), .int (iI (1 + (i : Int)))]) (rest := [.ref (da), .ref (ea), .ref (va), .ref (ga), .ref (g 0)]) ⟨hx, hb, hml, hown, hts⟩ (kL_cell l hL (k := 1 + (i : Int)) (by omega)) (va_X.kept hX (hW.2.2.2.1 b hbl hbA)) (Nat.lt_of_lt_of_le hbl hW.2.2.1) gL_law_L_cell rfl (by decide +kernel) ⟨Nat.le_of_ble_eq_true rfl, Nat.le_of_ble_eq_true rfl⟩ rfl hl.1 (Nat.le_of_ble_eq_true rfl) dL_law_79 ⟨Nat.le_refl _, Nat.le_refl _⟩ rfl ?_
      have cr4 := cellV_rg (L := L) (xs := xs) (k := 1 + (i : Int))
      refine j_ldc (n := 2147483647) hx hb hown (hts (.constant RL 8 2147483647) (by decide +kernel)) rfl dL_law_82 ?_
      refine lv_iand hx hb dL_law_84 (j_any hx hb ?_)
      obtain ⟨q5, eq5⟩ : ∃ zz_ : Int, zz_ = (iI (cellV L xs (1 + (i : Int))) &&& iI (2147483647)).toInt := ⟨_, rfl⟩
      rw [← eq5]
      have rq5 : rg q5 := eq5 ▸ rg_of _
      have nq5 : 0 ≤ q5 := eq5 ▸ and_nn _
      refine j_si hx hb dL_law_85 rfl ?_
      refine j_div hx hb (by omega) (by omega) dL_law_88 ?_
      refine j_si hx hb dL_law_89 rfl ?_
      refine j_mul hx hb dL_law_92 ?_
      refine lv_iload hx hb dL_law_93 (lv_at hl 7 rfl) ?_
      refine j_bi hx hb dL_law_95 rfl ?_
      refine j_ige (tgt := 104) hx hb (by omega) (by omega) dL_law_97 (by decide) (fun c6 => ?_) (fun c6 => ?_)
      · refine lv_iload hx hb dL_law_104 (lv_at hl 7 rfl) ?_
        refine j_bi hx hb dL_law_106 rfl ?_
        refine j_ine (tgt := 115) hx hb (by omega) (by omega) dL_law_108 (by decide) (fun c7 => ?_) (fun c7 => ?_)
        · refine j_bi hx hb dL_law_115 rfl ?_
          refine j_add hx hb dL_law_117 ?_
          refine e_callS (v := some (.int (iI (1)))) (n := 6) (As := [.ref (g 0), .ref (ga), .ref (va), .ref (ea), .ref (da), .int (iI (((q5 / 832) * 832) + 9))]) (rest := []) (st2 := [.int (iI (1))]) (pre := []) (post := []) ⟨hx, hb, hml, hown, hts⟩ hK hW (kL_acts l D cI cV cL ga va ea da g a ra m ev dv wL tt hSV hLW htt (by omega) (((q5 / 832) * 832) + 9) (by omega)) (by rw [List.append_nil]; rfl) (fun _ e => LSt.fst hLW e) gL_law_L_acts rfl (by decide +kernel) ⟨Nat.le_of_ble_eq_true rfl, Nat.le_of_ble_eq_true rfl⟩ rfl hl.1 (Nat.le_of_ble_eq_true rfl) dL_law_118 ⟨Nat.le_refl _, Nat.le_refl _⟩ rfl rfl (fun w_ H locs hR_ hW => ?_)
          rw [List.append_nil] at hW
          obtain ⟨m, ev, dv, wL, hSV, htt2, hLW, rfl⟩ := hR_
          have hW : Wd D (fun q : Nat => s0.heap.size ≤ q) (lw2 cI ga va m (ed2 cL ea da ev dv wL)) s0.heap H locs := hW
          refine lv_istore (lv' := [(6, .int (iI (1))), (0, .ref (b)), (1, .ref (g 0)), (2, .ref (ga)), (3, .ref (va)), (4, .ref (ea)), (5, .ref (da)), (7, .int (iI ((i : Int))))]) hx hb dL_law_121 hl (by decide) rfl (fun ls hl => ?_)
          refine lv_iinc (v := iI ((i : Int) + 1)) (lv' := [(7, .int (iI ((i : Int) + 1))), (6, .int (iI (1))), (0, .ref (b)), (1, .ref (g 0)), (2, .ref (ga)), (3, .ref (va)), (4, .ref (ea)), (5, .ref (da))]) hx hb dL_law_123 hl (k := 7) rfl (iI_add _ _) (by decide) rfl (fun ls hl => ?_)
          refine lv_goto (tgt := 55) hx hb dL_law_126 (by decide) ?_
          exact ih (i + 1) (by omega) (by omega) _ H locs ⟨m, ev, dv, wL, hSV, by omega, hLW, rfl⟩ hW ls (lv_sub hl [2, 3, 4, 5, 6, 7, 1, 0] rfl)
        · refine j_c hx hb dL_law_111 ?_
          refine lv_goto (tgt := 117) hx hb dL_law_112 (by decide) ?_
          refine j_add hx hb dL_law_117 ?_
          refine e_callS (v := some (.int (iI (1)))) (n := 6) (As := [.ref (g 0), .ref (ga), .ref (va), .ref (ea), .ref (da), .int (iI (((q5 / 832) * 832) + 1))]) (rest := []) (st2 := [.int (iI (1))]) (pre := []) (post := []) ⟨hx, hb, hml, hown, hts⟩ hK hW (kL_acts l D cI cV cL ga va ea da g a ra m ev dv wL tt hSV hLW htt (by omega) (((q5 / 832) * 832) + 1) (by omega)) (by rw [List.append_nil]; rfl) (fun _ e => LSt.fst hLW e) gL_law_L_acts rfl (by decide +kernel) ⟨Nat.le_of_ble_eq_true rfl, Nat.le_of_ble_eq_true rfl⟩ rfl hl.1 (Nat.le_of_ble_eq_true rfl) dL_law_118 ⟨Nat.le_refl _, Nat.le_refl _⟩ rfl rfl (fun w_ H locs hR_ hW => ?_)
          rw [List.append_nil] at hW
          obtain ⟨m, ev, dv, wL, hSV, htt2, hLW, rfl⟩ := hR_
          have hW : Wd D (fun q : Nat => s0.heap.size ≤ q) (lw2 cI ga va m (ed2 cL ea da ev dv wL)) s0.heap H locs := hW
          refine lv_istore (lv' := [(6, .int (iI (1))), (0, .ref (b)), (1, .ref (g 0)), (2, .ref (ga)), (3, .ref (va)), (4, .ref (ea)), (5, .ref (da)), (7, .int (iI ((i : Int))))]) hx hb dL_law_121 hl (by decide) rfl (fun ls hl => ?_)
          refine lv_iinc (v := iI ((i : Int) + 1)) (lv' := [(7, .int (iI ((i : Int) + 1))), (6, .int (iI (1))), (0, .ref (b)), (1, .ref (g 0)), (2, .ref (ga)), (3, .ref (va)), (4, .ref (ea)), (5, .ref (da))]) hx hb dL_law_123 hl (k := 7) rfl (iI_add _ _) (by decide) rfl (fun ls hl => ?_)
          refine lv_goto (tgt := 55) hx hb dL_law_126 (by decide) ?_
          exact ih (i + 1) (by omega) (by omega) _ H locs ⟨m, ev, dv, wL, hSV, by omega, hLW, rfl⟩ hW ls (lv_sub hl [2, 3, 4, 5, 6, 7, 1, 0] rfl)
      · refine j_c hx hb dL_law_100 ?_
        refine lv_goto (tgt := 117) hx hb dL_law_101 (by decide) ?_
        refine j_add hx hb dL_law_117 ?_
        refine e_callS (v := some (.int (iI (1)))) (n := 6) (As := [.ref (g 0), .ref (ga), .ref (va), .ref (ea), .ref (da), .int (iI (((q5 / 832) * 832) + 0))]) (rest := []) (st2 := [.int (iI (1))]) (pre := []) (post := []) ⟨hx, hb, hml, hown, hts⟩ hK hW (kL_acts l D cI cV cL ga va ea da g a ra m ev dv wL tt hSV hLW htt (by omega) (((q5 / 832) * 832) + 0) (by omega)) (by rw [List.append_nil]; rfl) (fun _ e => LSt.fst hLW e) gL_law_L_acts rfl (by decide +kernel) ⟨Nat.le_of_ble_eq_true rfl, Nat.le_of_ble_eq_true rfl⟩ rfl hl.1 (Nat.le_of_ble_eq_true rfl) dL_law_118 ⟨Nat.le_refl _, Nat.le_refl _⟩ rfl rfl (fun w_ H locs hR_ hW => ?_)
        rw [List.append_nil] at hW
        obtain ⟨m, ev, dv, wL, hSV, htt2, hLW, rfl⟩ := hR_
        have hW : Wd D (fun q : Nat => s0.heap.size ≤ q) (lw2 cI ga va m (ed2 cL ea da ev dv wL)) s0.heap H locs := hW
        refine lv_istore (lv' := [(6, .int (iI (1))), (0, .ref (b)), (1, .ref (g 0)), (2, .ref (ga)), (3, .ref (va)), (4, .ref (ea)), (5, .ref (da)), (7, .int (iI ((i : Int))))]) hx hb dL_law_121 hl (by decide) rfl (fun ls hl => ?_)
        refine lv_iinc (v := iI ((i : Int) + 1)) (lv' := [(7, .int (iI ((i : Int) + 1))), (6, .int (iI (1))), (0, .ref (b)), (1, .ref (g 0)), (2, .ref (ga)), (3, .ref (va)), (4, .ref (ea)), (5, .ref (da))]) hx hb dL_law_123 hl (k := 7) rfl (iI_add _ _) (by decide) rfl (fun ls hl => ?_)
        refine lv_goto (tgt := 55) hx hb dL_law_126 (by decide) ?_
        exact ih (i + 1) (by omega) (by omega) _ H locs ⟨m, ev, dv, wL, hSV, by omega, hLW, rfl⟩ hW ls (lv_sub hl [2, 3, 4, 5, 6, 7, 1, 0] rfl)
