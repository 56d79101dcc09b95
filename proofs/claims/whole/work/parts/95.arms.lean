/-! the law: its calls -/
theorem j_sld {p : Program} {l : Launch} {e : Env} {R : Room} {s : State} {m : MethodId} {args : Array Value} {below : List Frame} {meth : Method} {c : Code} {H H0 : Heap} {locs : List Loc} {cells slots : Nat} {Q : State → Prop} {A : Nat → Prop} {cc : ByteArray} {pc : Nat} {ls : Array Slot} {rest : List Value} (hx : p.tables.exec = Jvm.exec) (hb : c.code = cc) {b L : Nat} {xs : Nat → Int32} (hX : va_X b L xs s H0) (hbl : b < H0.size) (hbA : ¬ A b) (hS : va_S A H0 H locs) {k : Int} (hk : 0 ≤ k ∧ k < L) (hL : L ≤ 1536) (hdg : decode cc pc = .ok (.iaload, 1)) (kk : W p l e R s m args below meth c H locs cells slots Q (F0 m (pc + 1) ls (.int (iI (xs k.toNat).toInt) :: rest))) : W p l e R s m args below meth c H locs cells slots Q (F0 m pc ls (.int (iI k) :: .ref b :: rest)) := by
  refine va_sld hx hb hX hbl hbA hS (iI_in hk (by omega)) hdg ?_
  rw [iI_clamp ⟨by omega, by omega⟩]
  rw [iI_of] at kk
  exact kk
set_option maxHeartbeats 4000000 in
set_option maxRecDepth 100000 in
theorem law_come {p : Program} {e : Env} {s : State} {m : MethodId} {below : List Frame} {meth : Method} {c : Code} (l : Launch) {b L : Nat} {xs : Nat → Int32} (hL : L ≤ 1536) (C0 : lw_At p s m meth c b L xs) {D : va_G} {cI cV : ClassId} {g a : Nat → Nat} {ra : Nat → Nat → Nat} {b6 : Nat → Nat} (hK : va_K D vwCl (kt cI cV) s) {wL wM : va_W} {H : Heap} {locs : List Loc} {ls : Array Slot} {iv : Int} (hi : 0 ≤ iv ∧ iv + 3 ≤ L) (hS : Sim cI cV g a ra b6 wL wM) (hW : Wd D (fun q : Nat => s.heap.size ≤ q) (wL ++ wM) s.heap H locs) (hl : lv_has ls 4 [(0, .ref b), (1, .ref (g 0)), (2, .ref (b6 0)), (3, .int (iI iv))]) {Q : State → Prop} (kk : ∀ (wL' wM' : va_W) (H' : Heap) (locs' : List Loc), Sim cI cV g a ra b6 wL' wM' → Wd D (fun q : Nat => s.heap.size ≤ q) (wL' ++ wM') s.heap H' locs' → W p l e room_1 s m #[Value.ref b] below meth c H' locs' 600000 7302250 Q (F0 m 699 ls [])) : W p l e room_1 s m #[Value.ref b] below meth c H locs 600000 7302250 Q (F0 m 140 ls []) := by
  obtain ⟨hx, hb, hr, hml, hown, hts0, hX, hbl, hlocks, hgv⟩ := C0
  have hts : ∀ w ∈ wsL_law, w.before #[Value.ref b] s = true := fun w h => hts0 w (wsL_law_in w h)
  have hbA : ¬ (fun q : Nat => s.heap.size ≤ q) b := Nat.not_le.mpr hbl
  have hown : s.vm.findClass RL = some m.cls := hown
  obtain ⟨v, wL', wM', hS', c5, c6⟩ := go_come l D hS
  obtain ⟨hh5, fs, hh6⟩ := hS.heads
  obtain ⟨f5, f6⟩ := hS.fst hS'
  refine lv_aload_n hx hb dL_law_140 rfl (lv_at hl 1 rfl) ?_
  refine m_callV (v := some (.int (iI v))) (ci := 5) (n := 0) (As := []) (rest := []) (st2 := [.int (iI v)]) (pre := []) (post := wM) (w2 := wL' ++ wM) ⟨hx, hb, hml, hown, hts⟩ hK hW c5 rfl rfl f5 rfl hh5 gL_law_X5_come rfl (by decide +kernel) ⟨Nat.le_of_ble_eq_true rfl, Nat.le_of_ble_eq_true rfl⟩ rfl hl.1 (Nat.le_of_ble_eq_true rfl) dL_law_141 ⟨Nat.le_refl _, Nat.le_refl _⟩ rfl rfl (fun H locs hW => ?_)
  refine lv_aload_n hx hb dL_law_144 rfl (lv_at hl 2 rfl) ?_
  refine m_callV (v := some (.int (iI v))) (ci := 6) (n := 0) (As := []) (rest := [.int (iI v)]) (st2 := [.int (iI v), .int (iI v)]) (pre := wL') (post := []) (w2 := wL' ++ wM') ⟨hx, hb, hml, hown, hts⟩ hK hW c6 (by rw [List.append_nil]) (by rw [List.append_nil]) f6 rfl hh6 gL_law_X6_come rfl (by decide +kernel) ⟨Nat.le_of_ble_eq_true rfl, Nat.le_of_ble_eq_true rfl⟩ rfl hl.1 (Nat.le_of_ble_eq_true rfl) dL_law_145 ⟨Nat.le_refl _, Nat.le_refl _⟩ rfl rfl (fun H locs hW => ?_)
  exact lv_icmp_eq (tgt := 699) hx hb dL_law_148 (by decide) (fun _ => kk wL' wM' H locs hS' hW) (fun q => absurd rfl q)
set_option maxHeartbeats 4000000 in
set_option maxRecDepth 100000 in
theorem law_attend {p : Program} {e : Env} {s : State} {m : MethodId} {below : List Frame} {meth : Method} {c : Code} (l : Launch) {b L : Nat} {xs : Nat → Int32} (hL : L ≤ 1536) (C0 : lw_At p s m meth c b L xs) {D : va_G} {cI cV : ClassId} {g a : Nat → Nat} {ra : Nat → Nat → Nat} {b6 : Nat → Nat} (hK : va_K D vwCl (kt cI cV) s) {wL wM : va_W} {H : Heap} {locs : List Loc} {ls : Array Slot} {iv : Int} (hi : 0 ≤ iv ∧ iv + 3 ≤ L) (hS : Sim cI cV g a ra b6 wL wM) (hW : Wd D (fun q : Nat => s.heap.size ≤ q) (wL ++ wM) s.heap H locs) (hl : lv_has ls 4 [(0, .ref b), (1, .ref (g 0)), (2, .ref (b6 0)), (3, .int (iI iv))]) {Q : State → Prop} (kk : ∀ (wL' wM' : va_W) (H' : Heap) (locs' : List Loc), Sim cI cV g a ra b6 wL' wM' → Wd D (fun q : Nat => s.heap.size ≤ q) (wL' ++ wM') s.heap H' locs' → W p l e room_1 s m #[Value.ref b] below meth c H' locs' 600000 7302250 Q (F0 m 699 ls [])) : W p l e room_1 s m #[Value.ref b] below meth c H locs 600000 7302250 Q (F0 m 153 ls []) := by
  obtain ⟨hx, hb, hr, hml, hown, hts0, hX, hbl, hlocks, hgv⟩ := C0
  have hts : ∀ w ∈ wsL_law, w.before #[Value.ref b] s = true := fun w h => hts0 w (wsL_law_in w h)
  have hbA : ¬ (fun q : Nat => s.heap.size ≤ q) b := Nat.not_le.mpr hbl
  have hown : s.vm.findClass RL = some m.cls := hown
  obtain ⟨v, wL', wM', hS', c5, c6⟩ := go_attend l D hS (x := (xs (iv + 1).toNat).toInt) (y := (xs (iv + 2).toNat).toInt) (rg_of _) (rg_of _)
  obtain ⟨hh5, fs, hh6⟩ := hS.heads
  obtain ⟨f5, f6⟩ := hS.fst hS'
  refine lv_aload_n hx hb dL_law_153 rfl (lv_at hl 1 rfl) ?_
  refine lv_aload_n hx hb dL_law_154 rfl (lv_at hl 0 rfl) ?_
  refine lv_iload_n hx hb dL_law_155 rfl (lv_at hl 3 rfl) ?_
  refine j_c hx hb dL_law_156 ?_
  refine j_add hx hb dL_law_157 ?_
  refine j_sld hx hb hX hbl hbA hW.2.2 (by omega) hL dL_law_158 ?_
  refine lv_aload_n hx hb dL_law_159 rfl (lv_at hl 0 rfl) ?_
  refine lv_iload_n hx hb dL_law_160 rfl (lv_at hl 3 rfl) ?_
  refine j_c hx hb dL_law_161 ?_
  refine j_add hx hb dL_law_162 ?_
  refine j_sld hx hb hX hbl hbA hW.2.2 (by omega) hL dL_law_163 ?_
  refine m_callV (v := some (.int (iI v))) (ci := 5) (n := 2) (As := [.int (iI (xs (iv + 1).toNat).toInt), .int (iI (xs (iv + 2).toNat).toInt)]) (rest := []) (st2 := [.int (iI v)]) (pre := []) (post := wM) (w2 := wL' ++ wM) ⟨hx, hb, hml, hown, hts⟩ hK hW c5 rfl rfl f5 rfl hh5 gL_law_X5_attend rfl (by decide +kernel) ⟨Nat.le_of_ble_eq_true rfl, Nat.le_of_ble_eq_true rfl⟩ rfl hl.1 (Nat.le_of_ble_eq_true rfl) dL_law_164 ⟨Nat.le_refl _, Nat.le_refl _⟩ rfl rfl (fun H locs hW => ?_)
  refine lv_aload_n hx hb dL_law_167 rfl (lv_at hl 2 rfl) ?_
  refine lv_aload_n hx hb dL_law_168 rfl (lv_at hl 0 rfl) ?_
  refine lv_iload_n hx hb dL_law_169 rfl (lv_at hl 3 rfl) ?_
  refine j_c hx hb dL_law_170 ?_
  refine j_add hx hb dL_law_171 ?_
  refine j_sld hx hb hX hbl hbA hW.2.2 (by omega) hL dL_law_172 ?_
  refine lv_aload_n hx hb dL_law_173 rfl (lv_at hl 0 rfl) ?_
  refine lv_iload_n hx hb dL_law_174 rfl (lv_at hl 3 rfl) ?_
  refine j_c hx hb dL_law_175 ?_
  refine j_add hx hb dL_law_176 ?_
  refine j_sld hx hb hX hbl hbA hW.2.2 (by omega) hL dL_law_177 ?_
  refine m_callV (v := some (.int (iI v))) (ci := 6) (n := 2) (As := [.int (iI (xs (iv + 1).toNat).toInt), .int (iI (xs (iv + 2).toNat).toInt)]) (rest := [.int (iI v)]) (st2 := [.int (iI v), .int (iI v)]) (pre := wL') (post := []) (w2 := wL' ++ wM') ⟨hx, hb, hml, hown, hts⟩ hK hW c6 (by rw [List.append_nil]) (by rw [List.append_nil]) f6 rfl hh6 gL_law_X6_attend rfl (by decide +kernel) ⟨Nat.le_of_ble_eq_true rfl, Nat.le_of_ble_eq_true rfl⟩ rfl hl.1 (Nat.le_of_ble_eq_true rfl) dL_law_178 ⟨Nat.le_refl _, Nat.le_refl _⟩ rfl rfl (fun H locs hW => ?_)
  exact lv_icmp_eq (tgt := 699) hx hb dL_law_181 (by decide) (fun _ => kk wL' wM' H locs hS' hW) (fun q => absurd rfl q)
set_option maxHeartbeats 4000000 in
set_option maxRecDepth 100000 in
theorem law_found {p : Program} {e : Env} {s : State} {m : MethodId} {below : List Frame} {meth : Method} {c : Code} (l : Launch) {b L : Nat} {xs : Nat → Int32} (hL : L ≤ 1536) (C0 : lw_At p s m meth c b L xs) {D : va_G} {cI cV : ClassId} {g a : Nat → Nat} {ra : Nat → Nat → Nat} {b6 : Nat → Nat} (hK : va_K D vwCl (kt cI cV) s) {wL wM : va_W} {H : Heap} {locs : List Loc} {ls : Array Slot} {iv : Int} (hi : 0 ≤ iv ∧ iv + 3 ≤ L) (hS : Sim cI cV g a ra b6 wL wM) (hW : Wd D (fun q : Nat => s.heap.size ≤ q) (wL ++ wM) s.heap H locs) (hl : lv_has ls 4 [(0, .ref b), (1, .ref (g 0)), (2, .ref (b6 0)), (3, .int (iI iv))]) {Q : State → Prop} (kk : ∀ (wL' wM' : va_W) (H' : Heap) (locs' : List Loc), Sim cI cV g a ra b6 wL' wM' → Wd D (fun q : Nat => s.heap.size ≤ q) (wL' ++ wM') s.heap H' locs' → W p l e room_1 s m #[Value.ref b] below meth c H' locs' 600000 7302250 Q (F0 m 699 ls [])) : W p l e room_1 s m #[Value.ref b] below meth c H locs 600000 7302250 Q (F0 m 186 ls []) := by
  obtain ⟨hx, hb, hr, hml, hown, hts0, hX, hbl, hlocks, hgv⟩ := C0
  have hts : ∀ w ∈ wsL_law, w.before #[Value.ref b] s = true := fun w h => hts0 w (wsL_law_in w h)
  have hbA : ¬ (fun q : Nat => s.heap.size ≤ q) b := Nat.not_le.mpr hbl
  have hown : s.vm.findClass RL = some m.cls := hown
  obtain ⟨v, wL', wM', hS', c5, c6⟩ := go_found l D hS (x := (xs (iv + 1).toNat).toInt) (rg_of _)
  obtain ⟨hh5, fs, hh6⟩ := hS.heads
  obtain ⟨f5, f6⟩ := hS.fst hS'
  refine lv_aload_n hx hb dL_law_186 rfl (lv_at hl 1 rfl) ?_
  refine lv_aload_n hx hb dL_law_187 rfl (lv_at hl 0 rfl) ?_
  refine lv_iload_n hx hb dL_law_188 rfl (lv_at hl 3 rfl) ?_
  refine j_c hx hb dL_law_189 ?_
  refine j_add hx hb dL_law_190 ?_
  refine j_sld hx hb hX hbl hbA hW.2.2 (by omega) hL dL_law_191 ?_
  refine m_callV (v := some (.int (iI v))) (ci := 5) (n := 1) (As := [.int (iI (xs (iv + 1).toNat).toInt)]) (rest := []) (st2 := [.int (iI v)]) (pre := []) (post := wM) (w2 := wL' ++ wM) ⟨hx, hb, hml, hown, hts⟩ hK hW c5 rfl rfl f5 rfl hh5 gL_law_X5_found rfl (by decide +kernel) ⟨Nat.le_of_ble_eq_true rfl, Nat.le_of_ble_eq_true rfl⟩ rfl hl.1 (Nat.le_of_ble_eq_true rfl) dL_law_192 ⟨Nat.le_refl _, Nat.le_refl _⟩ rfl rfl (fun H locs hW => ?_)
  refine lv_aload_n hx hb dL_law_195 rfl (lv_at hl 2 rfl) ?_
  refine lv_aload_n hx hb dL_law_196 rfl (lv_at hl 0 rfl) ?_
  refine lv_iload_n hx hb dL_law_197 rfl (lv_at hl 3 rfl) ?_
  refine j_c hx hb dL_law_198 ?_
  refine j_add hx hb dL_law_199 ?_
  refine j_sld hx hb hX hbl hbA hW.2.2 (by omega) hL dL_law_200 ?_
  refine m_callV (v := some (.int (iI v))) (ci := 6) (n := 1) (As := [.int (iI (xs (iv + 1).toNat).toInt)]) (rest := [.int (iI v)]) (st2 := [.int (iI v), .int (iI v)]) (pre := wL') (post := []) (w2 := wL' ++ wM') ⟨hx, hb, hml, hown, hts⟩ hK hW c6 (by rw [List.append_nil]) (by rw [List.append_nil]) f6 rfl hh6 gL_law_X6_found rfl (by decide +kernel) ⟨Nat.le_of_ble_eq_true rfl, Nat.le_of_ble_eq_true rfl⟩ rfl hl.1 (Nat.le_of_ble_eq_true rfl) dL_law_201 ⟨Nat.le_refl _, Nat.le_refl _⟩ rfl rfl (fun H locs hW => ?_)
  exact lv_icmp_eq (tgt := 699) hx hb dL_law_204 (by decide) (fun _ => kk wL' wM' H locs hS' hW) (fun q => absurd rfl q)
set_option maxHeartbeats 4000000 in
set_option maxRecDepth 100000 in
theorem law_setLot {p : Program} {e : Env} {s : State} {m : MethodId} {below : List Frame} {meth : Method} {c : Code} (l : Launch) {b L : Nat} {xs : Nat → Int32} (hL : L ≤ 1536) (C0 : lw_At p s m meth c b L xs) {D : va_G} {cI cV : ClassId} {g a : Nat → Nat} {ra : Nat → Nat → Nat} {b6 : Nat → Nat} (hK : va_K D vwCl (kt cI cV) s) {wL wM : va_W} {H : Heap} {locs : List Loc} {ls : Array Slot} {iv : Int} (hi : 0 ≤ iv ∧ iv + 3 ≤ L) (hS : Sim cI cV g a ra b6 wL wM) (hW : Wd D (fun q : Nat => s.heap.size ≤ q) (wL ++ wM) s.heap H locs) (hl : lv_has ls 4 [(0, .ref b), (1, .ref (g 0)), (2, .ref (b6 0)), (3, .int (iI iv))]) {Q : State → Prop} (kk : ∀ (wL' wM' : va_W) (H' : Heap) (locs' : List Loc), Sim cI cV g a ra b6 wL' wM' → Wd D (fun q : Nat => s.heap.size ≤ q) (wL' ++ wM') s.heap H' locs' → W p l e room_1 s m #[Value.ref b] below meth c H' locs' 600000 7302250 Q (F0 m 699 ls [])) : W p l e room_1 s m #[Value.ref b] below meth c H locs 600000 7302250 Q (F0 m 209 ls []) := by
  obtain ⟨hx, hb, hr, hml, hown, hts0, hX, hbl, hlocks, hgv⟩ := C0
  have hts : ∀ w ∈ wsL_law, w.before #[Value.ref b] s = true := fun w h => hts0 w (wsL_law_in w h)
  have hbA : ¬ (fun q : Nat => s.heap.size ≤ q) b := Nat.not_le.mpr hbl
  have hown : s.vm.findClass RL = some m.cls := hown
  obtain ⟨v, wL', wM', hS', c5, c6⟩ := go_setLot l D hS (x := (xs (iv + 1).toNat).toInt) (rg_of _)
  obtain ⟨hh5, fs, hh6⟩ := hS.heads
  obtain ⟨f5, f6⟩ := hS.fst hS'
  refine lv_aload_n hx hb dL_law_209 rfl (lv_at hl 1 rfl) ?_
  refine lv_aload_n hx hb dL_law_210 rfl (lv_at hl 0 rfl) ?_
  refine lv_iload_n hx hb dL_law_211 rfl (lv_at hl 3 rfl) ?_
  refine j_c hx hb dL_law_212 ?_
  refine j_add hx hb dL_law_213 ?_
  refine j_sld hx hb hX hbl hbA hW.2.2 (by omega) hL dL_law_214 ?_
  refine m_callV (v := some (.int (iI v))) (ci := 5) (n := 1) (As := [.int (iI (xs (iv + 1).toNat).toInt)]) (rest := []) (st2 := [.int (iI v)]) (pre := []) (post := wM) (w2 := wL' ++ wM) ⟨hx, hb, hml, hown, hts⟩ hK hW c5 rfl rfl f5 rfl hh5 gL_law_X5_setLot rfl (by decide +kernel) ⟨Nat.le_of_ble_eq_true rfl, Nat.le_of_ble_eq_true rfl⟩ rfl hl.1 (Nat.le_of_ble_eq_true rfl) dL_law_215 ⟨Nat.le_refl _, Nat.le_refl _⟩ rfl rfl (fun H locs hW => ?_)
  refine lv_aload_n hx hb dL_law_218 rfl (lv_at hl 2 rfl) ?_
  refine lv_aload_n hx hb dL_law_219 rfl (lv_at hl 0 rfl) ?_
  refine lv_iload_n hx hb dL_law_220 rfl (lv_at hl 3 rfl) ?_
  refine j_c hx hb dL_law_221 ?_
  refine j_add hx hb dL_law_222 ?_
  refine j_sld hx hb hX hbl hbA hW.2.2 (by omega) hL dL_law_223 ?_
  refine m_callV (v := some (.int (iI v))) (ci := 6) (n := 1) (As := [.int (iI (xs (iv + 1).toNat).toInt)]) (rest := [.int (iI v)]) (st2 := [.int (iI v), .int (iI v)]) (pre := wL') (post := []) (w2 := wL' ++ wM') ⟨hx, hb, hml, hown, hts⟩ hK hW c6 (by rw [List.append_nil]) (by rw [List.append_nil]) f6 rfl hh6 gL_law_X6_setLot rfl (by decide +kernel) ⟨Nat.le_of_ble_eq_true rfl, Nat.le_of_ble_eq_true rfl⟩ rfl hl.1 (Nat.le_of_ble_eq_true rfl) dL_law_224 ⟨Nat.le_refl _, Nat.le_refl _⟩ rfl rfl (fun H locs hW => ?_)
  exact lv_icmp_eq (tgt := 699) hx hb dL_law_227 (by decide) (fun _ => kk wL' wM' H locs hS' hW) (fun q => absurd rfl q)
set_option maxHeartbeats 4000000 in
set_option maxRecDepth 100000 in
theorem law_change {p : Program} {e : Env} {s : State} {m : MethodId} {below : List Frame} {meth : Method} {c : Code} (l : Launch) {b L : Nat} {xs : Nat → Int32} (hL : L ≤ 1536) (C0 : lw_At p s m meth c b L xs) {D : va_G} {cI cV : ClassId} {g a : Nat → Nat} {ra : Nat → Nat → Nat} {b6 : Nat → Nat} (hK : va_K D vwCl (kt cI cV) s) {wL wM : va_W} {H : Heap} {locs : List Loc} {ls : Array Slot} {iv : Int} (hi : 0 ≤ iv ∧ iv + 3 ≤ L) (hS : Sim cI cV g a ra b6 wL wM) (hW : Wd D (fun q : Nat => s.heap.size ≤ q) (wL ++ wM) s.heap H locs) (hl : lv_has ls 4 [(0, .ref b), (1, .ref (g 0)), (2, .ref (b6 0)), (3, .int (iI iv))]) {Q : State → Prop} (kk : ∀ (wL' wM' : va_W) (H' : Heap) (locs' : List Loc), Sim cI cV g a ra b6 wL' wM' → Wd D (fun q : Nat => s.heap.size ≤ q) (wL' ++ wM') s.heap H' locs' → W p l e room_1 s m #[Value.ref b] below meth c H' locs' 600000 7302250 Q (F0 m 699 ls [])) : W p l e room_1 s m #[Value.ref b] below meth c H locs 600000 7302250 Q (F0 m 232 ls []) := by
  obtain ⟨hx, hb, hr, hml, hown, hts0, hX, hbl, hlocks, hgv⟩ := C0
  have hts : ∀ w ∈ wsL_law, w.before #[Value.ref b] s = true := fun w h => hts0 w (wsL_law_in w h)
  have hbA : ¬ (fun q : Nat => s.heap.size ≤ q) b := Nat.not_le.mpr hbl
  have hown : s.vm.findClass RL = some m.cls := hown
  obtain ⟨v, wL', wM', hS', c5, c6⟩ := go_change l D hS (x := (xs (iv + 1).toNat).toInt) (y := (xs (iv + 2).toNat).toInt) (rg_of _) (rg_of _)
  obtain ⟨hh5, fs, hh6⟩ := hS.heads
  obtain ⟨f5, f6⟩ := hS.fst hS'
  refine lv_aload_n hx hb dL_law_232 rfl (lv_at hl 1 rfl) ?_
  refine lv_aload_n hx hb dL_law_233 rfl (lv_at hl 0 rfl) ?_
  refine lv_iload_n hx hb dL_law_234 rfl (lv_at hl 3 rfl) ?_
  refine j_c hx hb dL_law_235 ?_
  refine j_add hx hb dL_law_236 ?_
  refine j_sld hx hb hX hbl hbA hW.2.2 (by omega) hL dL_law_237 ?_
  refine lv_aload_n hx hb dL_law_238 rfl (lv_at hl 0 rfl) ?_
  refine lv_iload_n hx hb dL_law_239 rfl (lv_at hl 3 rfl) ?_
  refine j_c hx hb dL_law_240 ?_
  refine j_add hx hb dL_law_241 ?_
  refine j_sld hx hb hX hbl hbA hW.2.2 (by omega) hL dL_law_242 ?_
  refine m_callV (v := some (.int (iI v))) (ci := 5) (n := 2) (As := [.int (iI (xs (iv + 1).toNat).toInt), .int (iI (xs (iv + 2).toNat).toInt)]) (rest := []) (st2 := [.int (iI v)]) (pre := []) (post := wM) (w2 := wL' ++ wM) ⟨hx, hb, hml, hown, hts⟩ hK hW c5 rfl rfl f5 rfl hh5 gL_law_X5_change rfl (by decide +kernel) ⟨Nat.le_of_ble_eq_true rfl, Nat.le_of_ble_eq_true rfl⟩ rfl hl.1 (Nat.le_of_ble_eq_true rfl) dL_law_243 ⟨Nat.le_refl _, Nat.le_refl _⟩ rfl rfl (fun H locs hW => ?_)
  refine lv_aload_n hx hb dL_law_246 rfl (lv_at hl 2 rfl) ?_
  refine lv_aload_n hx hb dL_law_247 rfl (lv_at hl 0 rfl) ?_
  refine lv_iload_n hx hb dL_law_248 rfl (lv_at hl 3 rfl) ?_
  refine j_c hx hb dL_law_249 ?_
  refine j_add hx hb dL_law_250 ?_
  refine j_sld hx hb hX hbl hbA hW.2.2 (by omega) hL dL_law_251 ?_
  refine lv_aload_n hx hb dL_law_252 rfl (lv_at hl 0 rfl) ?_
  refine lv_iload_n hx hb dL_law_253 rfl (lv_at hl 3 rfl) ?_
  refine j_c hx hb dL_law_254 ?_
  refine j_add hx hb dL_law_255 ?_
  refine j_sld hx hb hX hbl hbA hW.2.2 (by omega) hL dL_law_256 ?_
  refine m_callV (v := some (.int (iI v))) (ci := 6) (n := 2) (As := [.int (iI (xs (iv + 1).toNat).toInt), .int (iI (xs (iv + 2).toNat).toInt)]) (rest := [.int (iI v)]) (st2 := [.int (iI v), .int (iI v)]) (pre := wL') (post := []) (w2 := wL' ++ wM') ⟨hx, hb, hml, hown, hts⟩ hK hW c6 (by rw [List.append_nil]) (by rw [List.append_nil]) f6 rfl hh6 gL_law_X6_change rfl (by decide +kernel) ⟨Nat.le_of_ble_eq_true rfl, Nat.le_of_ble_eq_true rfl⟩ rfl hl.1 (Nat.le_of_ble_eq_true rfl) dL_law_257 ⟨Nat.le_refl _, Nat.le_refl _⟩ rfl rfl (fun H locs hW => ?_)
  exact lv_icmp_eq (tgt := 699) hx hb dL_law_260 (by decide) (fun _ => kk wL' wM' H locs hS' hW) (fun q => absurd rfl q)
set_option maxHeartbeats 4000000 in
set_option maxRecDepth 100000 in
theorem law_forge {p : Program} {e : Env} {s : State} {m : MethodId} {below : List Frame} {meth : Method} {c : Code} (l : Launch) {b L : Nat} {xs : Nat → Int32} (hL : L ≤ 1536) (C0 : lw_At p s m meth c b L xs) {D : va_G} {cI cV : ClassId} {g a : Nat → Nat} {ra : Nat → Nat → Nat} {b6 : Nat → Nat} (hK : va_K D vwCl (kt cI cV) s) {wL wM : va_W} {H : Heap} {locs : List Loc} {ls : Array Slot} {iv : Int} (hi : 0 ≤ iv ∧ iv + 3 ≤ L) (hS : Sim cI cV g a ra b6 wL wM) (hW : Wd D (fun q : Nat => s.heap.size ≤ q) (wL ++ wM) s.heap H locs) (hl : lv_has ls 4 [(0, .ref b), (1, .ref (g 0)), (2, .ref (b6 0)), (3, .int (iI iv))]) {Q : State → Prop} (kk : ∀ (wL' wM' : va_W) (H' : Heap) (locs' : List Loc), Sim cI cV g a ra b6 wL' wM' → Wd D (fun q : Nat => s.heap.size ≤ q) (wL' ++ wM') s.heap H' locs' → W p l e room_1 s m #[Value.ref b] below meth c H' locs' 600000 7302250 Q (F0 m 699 ls [])) : W p l e room_1 s m #[Value.ref b] below meth c H locs 600000 7302250 Q (F0 m 265 ls []) := by
  obtain ⟨hx, hb, hr, hml, hown, hts0, hX, hbl, hlocks, hgv⟩ := C0
  have hts : ∀ w ∈ wsL_law, w.before #[Value.ref b] s = true := fun w h => hts0 w (wsL_law_in w h)
  have hbA : ¬ (fun q : Nat => s.heap.size ≤ q) b := Nat.not_le.mpr hbl
  have hown : s.vm.findClass RL = some m.cls := hown
  obtain ⟨v, wL', wM', hS', c5, c6⟩ := go_forge l D hS (x := (xs (iv + 1).toNat).toInt) (rg_of _)
  obtain ⟨hh5, fs, hh6⟩ := hS.heads
  obtain ⟨f5, f6⟩ := hS.fst hS'
  refine lv_aload_n hx hb dL_law_265 rfl (lv_at hl 1 rfl) ?_
  refine lv_aload_n hx hb dL_law_266 rfl (lv_at hl 0 rfl) ?_
  refine lv_iload_n hx hb dL_law_267 rfl (lv_at hl 3 rfl) ?_
  refine j_c hx hb dL_law_268 ?_
  refine j_add hx hb dL_law_269 ?_
  refine j_sld hx hb hX hbl hbA hW.2.2 (by omega) hL dL_law_270 ?_
  refine m_callV (v := some (.int (iI v))) (ci := 5) (n := 1) (As := [.int (iI (xs (iv + 1).toNat).toInt)]) (rest := []) (st2 := [.int (iI v)]) (pre := []) (post := wM) (w2 := wL' ++ wM) ⟨hx, hb, hml, hown, hts⟩ hK hW c5 rfl rfl f5 rfl hh5 gL_law_X5_forge rfl (by decide +kernel) ⟨Nat.le_of_ble_eq_true rfl, Nat.le_of_ble_eq_true rfl⟩ rfl hl.1 (Nat.le_of_ble_eq_true rfl) dL_law_271 ⟨Nat.le_refl _, Nat.le_refl _⟩ rfl rfl (fun H locs hW => ?_)
  refine lv_aload_n hx hb dL_law_274 rfl (lv_at hl 2 rfl) ?_
  refine lv_aload_n hx hb dL_law_275 rfl (lv_at hl 0 rfl) ?_
  refine lv_iload_n hx hb dL_law_276 rfl (lv_at hl 3 rfl) ?_
  refine j_c hx hb dL_law_277 ?_
  refine j_add hx hb dL_law_278 ?_
  refine j_sld hx hb hX hbl hbA hW.2.2 (by omega) hL dL_law_279 ?_
  refine m_callV (v := some (.int (iI v))) (ci := 6) (n := 1) (As := [.int (iI (xs (iv + 1).toNat).toInt)]) (rest := [.int (iI v)]) (st2 := [.int (iI v), .int (iI v)]) (pre := wL') (post := []) (w2 := wL' ++ wM') ⟨hx, hb, hml, hown, hts⟩ hK hW c6 (by rw [List.append_nil]) (by rw [List.append_nil]) f6 rfl hh6 gL_law_X6_forge rfl (by decide +kernel) ⟨Nat.le_of_ble_eq_true rfl, Nat.le_of_ble_eq_true rfl⟩ rfl hl.1 (Nat.le_of_ble_eq_true rfl) dL_law_280 ⟨Nat.le_refl _, Nat.le_refl _⟩ rfl rfl (fun H locs hW => ?_)
  exact lv_icmp_eq (tgt := 699) hx hb dL_law_283 (by decide) (fun _ => kk wL' wM' H locs hS' hW) (fun q => absurd rfl q)
set_option maxHeartbeats 4000000 in
set_option maxRecDepth 100000 in
theorem law_propose {p : Program} {e : Env} {s : State} {m : MethodId} {below : List Frame} {meth : Method} {c : Code} (l : Launch) {b L : Nat} {xs : Nat → Int32} (hL : L ≤ 1536) (C0 : lw_At p s m meth c b L xs) {D : va_G} {cI cV : ClassId} {g a : Nat → Nat} {ra : Nat → Nat → Nat} {b6 : Nat → Nat} (hK : va_K D vwCl (kt cI cV) s) {wL wM : va_W} {H : Heap} {locs : List Loc} {ls : Array Slot} {iv : Int} (hi : 0 ≤ iv ∧ iv + 3 ≤ L) (hS : Sim cI cV g a ra b6 wL wM) (hW : Wd D (fun q : Nat => s.heap.size ≤ q) (wL ++ wM) s.heap H locs) (hl : lv_has ls 4 [(0, .ref b), (1, .ref (g 0)), (2, .ref (b6 0)), (3, .int (iI iv))]) {Q : State → Prop} (kk : ∀ (wL' wM' : va_W) (H' : Heap) (locs' : List Loc), Sim cI cV g a ra b6 wL' wM' → Wd D (fun q : Nat => s.heap.size ≤ q) (wL' ++ wM') s.heap H' locs' → W p l e room_1 s m #[Value.ref b] below meth c H' locs' 600000 7302250 Q (F0 m 699 ls [])) : W p l e room_1 s m #[Value.ref b] below meth c H locs 600000 7302250 Q (F0 m 288 ls []) := by
  obtain ⟨hx, hb, hr, hml, hown, hts0, hX, hbl, hlocks, hgv⟩ := C0
  have hts : ∀ w ∈ wsL_law, w.before #[Value.ref b] s = true := fun w h => hts0 w (wsL_law_in w h)
  have hbA : ¬ (fun q : Nat => s.heap.size ≤ q) b := Nat.not_le.mpr hbl
  have hown : s.vm.findClass RL = some m.cls := hown
  obtain ⟨v, wL', wM', hS', c5, c6⟩ := go_propose l D hS (x := (xs (iv + 1).toNat).toInt) (y := (xs (iv + 2).toNat).toInt) (rg_of _) (rg_of _)
  obtain ⟨hh5, fs, hh6⟩ := hS.heads
  obtain ⟨f5, f6⟩ := hS.fst hS'
  refine lv_aload_n hx hb dL_law_288 rfl (lv_at hl 1 rfl) ?_
  refine lv_aload_n hx hb dL_law_289 rfl (lv_at hl 0 rfl) ?_
  refine lv_iload_n hx hb dL_law_290 rfl (lv_at hl 3 rfl) ?_
  refine j_c hx hb dL_law_291 ?_
  refine j_add hx hb dL_law_292 ?_
  refine j_sld hx hb hX hbl hbA hW.2.2 (by omega) hL dL_law_293 ?_
  refine lv_aload_n hx hb dL_law_294 rfl (lv_at hl 0 rfl) ?_
  refine lv_iload_n hx hb dL_law_295 rfl (lv_at hl 3 rfl) ?_
  refine j_c hx hb dL_law_296 ?_
  refine j_add hx hb dL_law_297 ?_
  refine j_sld hx hb hX hbl hbA hW.2.2 (by omega) hL dL_law_298 ?_
  refine m_callV (v := some (.int (iI v))) (ci := 5) (n := 2) (As := [.int (iI (xs (iv + 1).toNat).toInt), .int (iI (xs (iv + 2).toNat).toInt)]) (rest := []) (st2 := [.int (iI v)]) (pre := []) (post := wM) (w2 := wL' ++ wM) ⟨hx, hb, hml, hown, hts⟩ hK hW c5 rfl rfl f5 rfl hh5 gL_law_X5_propose rfl (by decide +kernel) ⟨Nat.le_of_ble_eq_true rfl, Nat.le_of_ble_eq_true rfl⟩ rfl hl.1 (Nat.le_of_ble_eq_true rfl) dL_law_299 ⟨Nat.le_refl _, Nat.le_refl _⟩ rfl rfl (fun H locs hW => ?_)
  refine lv_aload_n hx hb dL_law_302 rfl (lv_at hl 2 rfl) ?_
  refine lv_aload_n hx hb dL_law_303 rfl (lv_at hl 0 rfl) ?_
  refine lv_iload_n hx hb dL_law_304 rfl (lv_at hl 3 rfl) ?_
  refine j_c hx hb dL_law_305 ?_
  refine j_add hx hb dL_law_306 ?_
  refine j_sld hx hb hX hbl hbA hW.2.2 (by omega) hL dL_law_307 ?_
  refine lv_aload_n hx hb dL_law_308 rfl (lv_at hl 0 rfl) ?_
  refine lv_iload_n hx hb dL_law_309 rfl (lv_at hl 3 rfl) ?_
  refine j_c hx hb dL_law_310 ?_
  refine j_add hx hb dL_law_311 ?_
  refine j_sld hx hb hX hbl hbA hW.2.2 (by omega) hL dL_law_312 ?_
  refine m_callV (v := some (.int (iI v))) (ci := 6) (n := 2) (As := [.int (iI (xs (iv + 1).toNat).toInt), .int (iI (xs (iv + 2).toNat).toInt)]) (rest := [.int (iI v)]) (st2 := [.int (iI v), .int (iI v)]) (pre := wL') (post := []) (w2 := wL' ++ wM') ⟨hx, hb, hml, hown, hts⟩ hK hW c6 (by rw [List.append_nil]) (by rw [List.append_nil]) f6 rfl hh6 gL_law_X6_propose rfl (by decide +kernel) ⟨Nat.le_of_ble_eq_true rfl, Nat.le_of_ble_eq_true rfl⟩ rfl hl.1 (Nat.le_of_ble_eq_true rfl) dL_law_313 ⟨Nat.le_refl _, Nat.le_refl _⟩ rfl rfl (fun H locs hW => ?_)
  exact lv_icmp_eq (tgt := 699) hx hb dL_law_316 (by decide) (fun _ => kk wL' wM' H locs hS' hW) (fun q => absurd rfl q)
set_option maxHeartbeats 4000000 in
set_option maxRecDepth 100000 in
theorem law_second {p : Program} {e : Env} {s : State} {m : MethodId} {below : List Frame} {meth : Method} {c : Code} (l : Launch) {b L : Nat} {xs : Nat → Int32} (hL : L ≤ 1536) (C0 : lw_At p s m meth c b L xs) {D : va_G} {cI cV : ClassId} {g a : Nat → Nat} {ra : Nat → Nat → Nat} {b6 : Nat → Nat} (hK : va_K D vwCl (kt cI cV) s) {wL wM : va_W} {H : Heap} {locs : List Loc} {ls : Array Slot} {iv : Int} (hi : 0 ≤ iv ∧ iv + 3 ≤ L) (hS : Sim cI cV g a ra b6 wL wM) (hW : Wd D (fun q : Nat => s.heap.size ≤ q) (wL ++ wM) s.heap H locs) (hl : lv_has ls 4 [(0, .ref b), (1, .ref (g 0)), (2, .ref (b6 0)), (3, .int (iI iv))]) {Q : State → Prop} (kk : ∀ (wL' wM' : va_W) (H' : Heap) (locs' : List Loc), Sim cI cV g a ra b6 wL' wM' → Wd D (fun q : Nat => s.heap.size ≤ q) (wL' ++ wM') s.heap H' locs' → W p l e room_1 s m #[Value.ref b] below meth c H' locs' 600000 7302250 Q (F0 m 699 ls [])) : W p l e room_1 s m #[Value.ref b] below meth c H locs 600000 7302250 Q (F0 m 321 ls []) := by
  obtain ⟨hx, hb, hr, hml, hown, hts0, hX, hbl, hlocks, hgv⟩ := C0
  have hts : ∀ w ∈ wsL_law, w.before #[Value.ref b] s = true := fun w h => hts0 w (wsL_law_in w h)
  have hbA : ¬ (fun q : Nat => s.heap.size ≤ q) b := Nat.not_le.mpr hbl
  have hown : s.vm.findClass RL = some m.cls := hown
  obtain ⟨v, wL', wM', hS', c5, c6⟩ := go_second l D hS (x := (xs (iv + 1).toNat).toInt) (y := (xs (iv + 2).toNat).toInt) (rg_of _) (rg_of _)
  obtain ⟨hh5, fs, hh6⟩ := hS.heads
  obtain ⟨f5, f6⟩ := hS.fst hS'
  refine lv_aload_n hx hb dL_law_321 rfl (lv_at hl 1 rfl) ?_
  refine lv_aload_n hx hb dL_law_322 rfl (lv_at hl 0 rfl) ?_
  refine lv_iload_n hx hb dL_law_323 rfl (lv_at hl 3 rfl) ?_
  refine j_c hx hb dL_law_324 ?_
  refine j_add hx hb dL_law_325 ?_
  refine j_sld hx hb hX hbl hbA hW.2.2 (by omega) hL dL_law_326 ?_
  refine lv_aload_n hx hb dL_law_327 rfl (lv_at hl 0 rfl) ?_
  refine lv_iload_n hx hb dL_law_328 rfl (lv_at hl 3 rfl) ?_
  refine j_c hx hb dL_law_329 ?_
  refine j_add hx hb dL_law_330 ?_
  refine j_sld hx hb hX hbl hbA hW.2.2 (by omega) hL dL_law_331 ?_
  refine m_callV (v := some (.int (iI v))) (ci := 5) (n := 2) (As := [.int (iI (xs (iv + 1).toNat).toInt), .int (iI (xs (iv + 2).toNat).toInt)]) (rest := []) (st2 := [.int (iI v)]) (pre := []) (post := wM) (w2 := wL' ++ wM) ⟨hx, hb, hml, hown, hts⟩ hK hW c5 rfl rfl f5 rfl hh5 gL_law_X5_second rfl (by decide +kernel) ⟨Nat.le_of_ble_eq_true rfl, Nat.le_of_ble_eq_true rfl⟩ rfl hl.1 (Nat.le_of_ble_eq_true rfl) dL_law_332 ⟨Nat.le_refl _, Nat.le_refl _⟩ rfl rfl (fun H locs hW => ?_)
  refine lv_aload_n hx hb dL_law_335 rfl (lv_at hl 2 rfl) ?_
  refine lv_aload_n hx hb dL_law_336 rfl (lv_at hl 0 rfl) ?_
  refine lv_iload_n hx hb dL_law_337 rfl (lv_at hl 3 rfl) ?_
  refine j_c hx hb dL_law_338 ?_
  refine j_add hx hb dL_law_339 ?_
  refine j_sld hx hb hX hbl hbA hW.2.2 (by omega) hL dL_law_340 ?_
  refine lv_aload_n hx hb dL_law_341 rfl (lv_at hl 0 rfl) ?_
  refine lv_iload_n hx hb dL_law_342 rfl (lv_at hl 3 rfl) ?_
  refine j_c hx hb dL_law_343 ?_
  refine j_add hx hb dL_law_344 ?_
  refine j_sld hx hb hX hbl hbA hW.2.2 (by omega) hL dL_law_345 ?_
  refine m_callV (v := some (.int (iI v))) (ci := 6) (n := 2) (As := [.int (iI (xs (iv + 1).toNat).toInt), .int (iI (xs (iv + 2).toNat).toInt)]) (rest := [.int (iI v)]) (st2 := [.int (iI v), .int (iI v)]) (pre := wL') (post := []) (w2 := wL' ++ wM') ⟨hx, hb, hml, hown, hts⟩ hK hW c6 (by rw [List.append_nil]) (by rw [List.append_nil]) f6 rfl hh6 gL_law_X6_second rfl (by decide +kernel) ⟨Nat.le_of_ble_eq_true rfl, Nat.le_of_ble_eq_true rfl⟩ rfl hl.1 (Nat.le_of_ble_eq_true rfl) dL_law_346 ⟨Nat.le_refl _, Nat.le_refl _⟩ rfl rfl (fun H locs hW => ?_)
  exact lv_icmp_eq (tgt := 699) hx hb dL_law_349 (by decide) (fun _ => kk wL' wM' H locs hS' hW) (fun q => absurd rfl q)
set_option maxHeartbeats 4000000 in
set_option maxRecDepth 100000 in
theorem law_learn {p : Program} {e : Env} {s : State} {m : MethodId} {below : List Frame} {meth : Method} {c : Code} (l : Launch) {b L : Nat} {xs : Nat → Int32} (hL : L ≤ 1536) (C0 : lw_At p s m meth c b L xs) {D : va_G} {cI cV : ClassId} {g a : Nat → Nat} {ra : Nat → Nat → Nat} {b6 : Nat → Nat} (hK : va_K D vwCl (kt cI cV) s) {wL wM : va_W} {H : Heap} {locs : List Loc} {ls : Array Slot} {iv : Int} (hi : 0 ≤ iv ∧ iv + 3 ≤ L) (hS : Sim cI cV g a ra b6 wL wM) (hW : Wd D (fun q : Nat => s.heap.size ≤ q) (wL ++ wM) s.heap H locs) (hl : lv_has ls 4 [(0, .ref b), (1, .ref (g 0)), (2, .ref (b6 0)), (3, .int (iI iv))]) {Q : State → Prop} (kk : ∀ (wL' wM' : va_W) (H' : Heap) (locs' : List Loc), Sim cI cV g a ra b6 wL' wM' → Wd D (fun q : Nat => s.heap.size ≤ q) (wL' ++ wM') s.heap H' locs' → W p l e room_1 s m #[Value.ref b] below meth c H' locs' 600000 7302250 Q (F0 m 699 ls [])) : W p l e room_1 s m #[Value.ref b] below meth c H locs 600000 7302250 Q (F0 m 354 ls []) := by
  obtain ⟨hx, hb, hr, hml, hown, hts0, hX, hbl, hlocks, hgv⟩ := C0
  have hts : ∀ w ∈ wsL_law, w.before #[Value.ref b] s = true := fun w h => hts0 w (wsL_law_in w h)
  have hbA : ¬ (fun q : Nat => s.heap.size ≤ q) b := Nat.not_le.mpr hbl
  have hown : s.vm.findClass RL = some m.cls := hown
  obtain ⟨v, wL', wM', hS', c5, c6⟩ := go_learn l D hS (x := (xs (iv + 1).toNat).toInt) (rg_of _)
  obtain ⟨hh5, fs, hh6⟩ := hS.heads
  obtain ⟨f5, f6⟩ := hS.fst hS'
  refine lv_aload_n hx hb dL_law_354 rfl (lv_at hl 1 rfl) ?_
  refine lv_aload_n hx hb dL_law_355 rfl (lv_at hl 0 rfl) ?_
  refine lv_iload_n hx hb dL_law_356 rfl (lv_at hl 3 rfl) ?_
  refine j_c hx hb dL_law_357 ?_
  refine j_add hx hb dL_law_358 ?_
  refine j_sld hx hb hX hbl hbA hW.2.2 (by omega) hL dL_law_359 ?_
  refine m_callV (v := some (.int (iI v))) (ci := 5) (n := 1) (As := [.int (iI (xs (iv + 1).toNat).toInt)]) (rest := []) (st2 := [.int (iI v)]) (pre := []) (post := wM) (w2 := wL' ++ wM) ⟨hx, hb, hml, hown, hts⟩ hK hW c5 rfl rfl f5 rfl hh5 gL_law_X5_learn rfl (by decide +kernel) ⟨Nat.le_of_ble_eq_true rfl, Nat.le_of_ble_eq_true rfl⟩ rfl hl.1 (Nat.le_of_ble_eq_true rfl) dL_law_360 ⟨Nat.le_refl _, Nat.le_refl _⟩ rfl rfl (fun H locs hW => ?_)
  refine lv_aload_n hx hb dL_law_363 rfl (lv_at hl 2 rfl) ?_
  refine lv_aload_n hx hb dL_law_364 rfl (lv_at hl 0 rfl) ?_
  refine lv_iload_n hx hb dL_law_365 rfl (lv_at hl 3 rfl) ?_
  refine j_c hx hb dL_law_366 ?_
  refine j_add hx hb dL_law_367 ?_
  refine j_sld hx hb hX hbl hbA hW.2.2 (by omega) hL dL_law_368 ?_
  refine m_callV (v := some (.int (iI v))) (ci := 6) (n := 1) (As := [.int (iI (xs (iv + 1).toNat).toInt)]) (rest := [.int (iI v)]) (st2 := [.int (iI v), .int (iI v)]) (pre := wL') (post := []) (w2 := wL' ++ wM') ⟨hx, hb, hml, hown, hts⟩ hK hW c6 (by rw [List.append_nil]) (by rw [List.append_nil]) f6 rfl hh6 gL_law_X6_learn rfl (by decide +kernel) ⟨Nat.le_of_ble_eq_true rfl, Nat.le_of_ble_eq_true rfl⟩ rfl hl.1 (Nat.le_of_ble_eq_true rfl) dL_law_369 ⟨Nat.le_refl _, Nat.le_refl _⟩ rfl rfl (fun H locs hW => ?_)
  exact lv_icmp_eq (tgt := 699) hx hb dL_law_372 (by decide) (fun _ => kk wL' wM' H locs hS' hW) (fun q => absurd rfl q)
set_option maxHeartbeats 4000000 in
set_option maxRecDepth 100000 in
theorem law_undo {p : Program} {e : Env} {s : State} {m : MethodId} {below : List Frame} {meth : Method} {c : Code} (l : Launch) {b L : Nat} {xs : Nat → Int32} (hL : L ≤ 1536) (C0 : lw_At p s m meth c b L xs) {D : va_G} {cI cV : ClassId} {g a : Nat → Nat} {ra : Nat → Nat → Nat} {b6 : Nat → Nat} (hK : va_K D vwCl (kt cI cV) s) {wL wM : va_W} {H : Heap} {locs : List Loc} {ls : Array Slot} {iv : Int} (hi : 0 ≤ iv ∧ iv + 3 ≤ L) (hS : Sim cI cV g a ra b6 wL wM) (hW : Wd D (fun q : Nat => s.heap.size ≤ q) (wL ++ wM) s.heap H locs) (hl : lv_has ls 4 [(0, .ref b), (1, .ref (g 0)), (2, .ref (b6 0)), (3, .int (iI iv))]) {Q : State → Prop} (kk : ∀ (wL' wM' : va_W) (H' : Heap) (locs' : List Loc), Sim cI cV g a ra b6 wL' wM' → Wd D (fun q : Nat => s.heap.size ≤ q) (wL' ++ wM') s.heap H' locs' → W p l e room_1 s m #[Value.ref b] below meth c H' locs' 600000 7302250 Q (F0 m 699 ls [])) : W p l e room_1 s m #[Value.ref b] below meth c H locs 600000 7302250 Q (F0 m 377 ls []) := by
  obtain ⟨hx, hb, hr, hml, hown, hts0, hX, hbl, hlocks, hgv⟩ := C0
  have hts : ∀ w ∈ wsL_law, w.before #[Value.ref b] s = true := fun w h => hts0 w (wsL_law_in w h)
  have hbA : ¬ (fun q : Nat => s.heap.size ≤ q) b := Nat.not_le.mpr hbl
  have hown : s.vm.findClass RL = some m.cls := hown
  obtain ⟨v, wL', wM', hS', c5, c6⟩ := go_undo l D hS
  obtain ⟨hh5, fs, hh6⟩ := hS.heads
  obtain ⟨f5, f6⟩ := hS.fst hS'
  refine lv_aload_n hx hb dL_law_377 rfl (lv_at hl 1 rfl) ?_
  refine m_callV (v := some (.int (iI v))) (ci := 5) (n := 0) (As := []) (rest := []) (st2 := [.int (iI v)]) (pre := []) (post := wM) (w2 := wL' ++ wM) ⟨hx, hb, hml, hown, hts⟩ hK hW c5 rfl rfl f5 rfl hh5 gL_law_X5_undo rfl (by decide +kernel) ⟨Nat.le_of_ble_eq_true rfl, Nat.le_of_ble_eq_true rfl⟩ rfl hl.1 (Nat.le_of_ble_eq_true rfl) dL_law_378 ⟨Nat.le_refl _, Nat.le_refl _⟩ rfl rfl (fun H locs hW => ?_)
  refine lv_aload_n hx hb dL_law_381 rfl (lv_at hl 2 rfl) ?_
  refine m_callV (v := some (.int (iI v))) (ci := 6) (n := 0) (As := []) (rest := [.int (iI v)]) (st2 := [.int (iI v), .int (iI v)]) (pre := wL') (post := []) (w2 := wL' ++ wM') ⟨hx, hb, hml, hown, hts⟩ hK hW c6 (by rw [List.append_nil]) (by rw [List.append_nil]) f6 rfl hh6 gL_law_X6_undo rfl (by decide +kernel) ⟨Nat.le_of_ble_eq_true rfl, Nat.le_of_ble_eq_true rfl⟩ rfl hl.1 (Nat.le_of_ble_eq_true rfl) dL_law_382 ⟨Nat.le_refl _, Nat.le_refl _⟩ rfl rfl (fun H locs hW => ?_)
  exact lv_icmp_eq (tgt := 699) hx hb dL_law_385 (by decide) (fun _ => kk wL' wM' H locs hS' hW) (fun q => absurd rfl q)
set_option maxHeartbeats 4000000 in
set_option maxRecDepth 100000 in
theorem law_append {p : Program} {e : Env} {s : State} {m : MethodId} {below : List Frame} {meth : Method} {c : Code} (l : Launch) {b L : Nat} {xs : Nat → Int32} (hL : L ≤ 1536) (C0 : lw_At p s m meth c b L xs) {D : va_G} {cI cV : ClassId} {g a : Nat → Nat} {ra : Nat → Nat → Nat} {b6 : Nat → Nat} (hK : va_K D vwCl (kt cI cV) s) {wL wM : va_W} {H : Heap} {locs : List Loc} {ls : Array Slot} {iv : Int} (hi : 0 ≤ iv ∧ iv + 3 ≤ L) (hS : Sim cI cV g a ra b6 wL wM) (hW : Wd D (fun q : Nat => s.heap.size ≤ q) (wL ++ wM) s.heap H locs) (hl : lv_has ls 4 [(0, .ref b), (1, .ref (g 0)), (2, .ref (b6 0)), (3, .int (iI iv))]) {Q : State → Prop} (kk : ∀ (wL' wM' : va_W) (H' : Heap) (locs' : List Loc), Sim cI cV g a ra b6 wL' wM' → Wd D (fun q : Nat => s.heap.size ≤ q) (wL' ++ wM') s.heap H' locs' → W p l e room_1 s m #[Value.ref b] below meth c H' locs' 600000 7302250 Q (F0 m 699 ls [])) : W p l e room_1 s m #[Value.ref b] below meth c H locs 600000 7302250 Q (F0 m 390 ls []) := by
  obtain ⟨hx, hb, hr, hml, hown, hts0, hX, hbl, hlocks, hgv⟩ := C0
  have hts : ∀ w ∈ wsL_law, w.before #[Value.ref b] s = true := fun w h => hts0 w (wsL_law_in w h)
  have hbA : ¬ (fun q : Nat => s.heap.size ≤ q) b := Nat.not_le.mpr hbl
  have hown : s.vm.findClass RL = some m.cls := hown
  obtain ⟨v, wL', wM', hS', c5, c6⟩ := go_append l D hS (x := (xs (iv + 1).toNat).toInt) (rg_of _)
  obtain ⟨hh5, fs, hh6⟩ := hS.heads
  obtain ⟨f5, f6⟩ := hS.fst hS'
  refine lv_aload_n hx hb dL_law_390 rfl (lv_at hl 1 rfl) ?_
  refine lv_aload_n hx hb dL_law_391 rfl (lv_at hl 0 rfl) ?_
  refine lv_iload_n hx hb dL_law_392 rfl (lv_at hl 3 rfl) ?_
  refine j_c hx hb dL_law_393 ?_
  refine j_add hx hb dL_law_394 ?_
  refine j_sld hx hb hX hbl hbA hW.2.2 (by omega) hL dL_law_395 ?_
  refine m_callV (v := some (.int (iI v))) (ci := 5) (n := 1) (As := [.int (iI (xs (iv + 1).toNat).toInt)]) (rest := []) (st2 := [.int (iI v)]) (pre := []) (post := wM) (w2 := wL' ++ wM) ⟨hx, hb, hml, hown, hts⟩ hK hW c5 rfl rfl f5 rfl hh5 gL_law_X5_append rfl (by decide +kernel) ⟨Nat.le_of_ble_eq_true rfl, Nat.le_of_ble_eq_true rfl⟩ rfl hl.1 (Nat.le_of_ble_eq_true rfl) dL_law_396 ⟨Nat.le_refl _, Nat.le_refl _⟩ rfl rfl (fun H locs hW => ?_)
  refine lv_aload_n hx hb dL_law_399 rfl (lv_at hl 2 rfl) ?_
  refine lv_aload_n hx hb dL_law_400 rfl (lv_at hl 0 rfl) ?_
  refine lv_iload_n hx hb dL_law_401 rfl (lv_at hl 3 rfl) ?_
  refine j_c hx hb dL_law_402 ?_
  refine j_add hx hb dL_law_403 ?_
  refine j_sld hx hb hX hbl hbA hW.2.2 (by omega) hL dL_law_404 ?_
  refine m_callV (v := some (.int (iI v))) (ci := 6) (n := 1) (As := [.int (iI (xs (iv + 1).toNat).toInt)]) (rest := [.int (iI v)]) (st2 := [.int (iI v), .int (iI v)]) (pre := wL') (post := []) (w2 := wL' ++ wM') ⟨hx, hb, hml, hown, hts⟩ hK hW c6 (by rw [List.append_nil]) (by rw [List.append_nil]) f6 rfl hh6 gL_law_X6_append rfl (by decide +kernel) ⟨Nat.le_of_ble_eq_true rfl, Nat.le_of_ble_eq_true rfl⟩ rfl hl.1 (Nat.le_of_ble_eq_true rfl) dL_law_405 ⟨Nat.le_refl _, Nat.le_refl _⟩ rfl rfl (fun H locs hW => ?_)
  exact lv_icmp_eq (tgt := 699) hx hb dL_law_408 (by decide) (fun _ => kk wL' wM' H locs hS' hW) (fun q => absurd rfl q)
set_option maxHeartbeats 4000000 in
set_option maxRecDepth 100000 in
theorem law_clearText {p : Program} {e : Env} {s : State} {m : MethodId} {below : List Frame} {meth : Method} {c : Code} (l : Launch) {b L : Nat} {xs : Nat → Int32} (hL : L ≤ 1536) (C0 : lw_At p s m meth c b L xs) {D : va_G} {cI cV : ClassId} {g a : Nat → Nat} {ra : Nat → Nat → Nat} {b6 : Nat → Nat} (hK : va_K D vwCl (kt cI cV) s) {wL wM : va_W} {H : Heap} {locs : List Loc} {ls : Array Slot} {iv : Int} (hi : 0 ≤ iv ∧ iv + 3 ≤ L) (hS : Sim cI cV g a ra b6 wL wM) (hW : Wd D (fun q : Nat => s.heap.size ≤ q) (wL ++ wM) s.heap H locs) (hl : lv_has ls 4 [(0, .ref b), (1, .ref (g 0)), (2, .ref (b6 0)), (3, .int (iI iv))]) {Q : State → Prop} (kk : ∀ (wL' wM' : va_W) (H' : Heap) (locs' : List Loc), Sim cI cV g a ra b6 wL' wM' → Wd D (fun q : Nat => s.heap.size ≤ q) (wL' ++ wM') s.heap H' locs' → W p l e room_1 s m #[Value.ref b] below meth c H' locs' 600000 7302250 Q (F0 m 699 ls [])) : W p l e room_1 s m #[Value.ref b] below meth c H locs 600000 7302250 Q (F0 m 413 ls []) := by
  obtain ⟨hx, hb, hr, hml, hown, hts0, hX, hbl, hlocks, hgv⟩ := C0
  have hts : ∀ w ∈ wsL_law, w.before #[Value.ref b] s = true := fun w h => hts0 w (wsL_law_in w h)
  have hbA : ¬ (fun q : Nat => s.heap.size ≤ q) b := Nat.not_le.mpr hbl
  have hown : s.vm.findClass RL = some m.cls := hown
  obtain ⟨v, wL', wM', hS', c5, c6⟩ := go_clearText l D hS
  obtain ⟨hh5, fs, hh6⟩ := hS.heads
  obtain ⟨f5, f6⟩ := hS.fst hS'
  refine lv_aload_n hx hb dL_law_413 rfl (lv_at hl 1 rfl) ?_
  refine m_callV (v := some (.int (iI v))) (ci := 5) (n := 0) (As := []) (rest := []) (st2 := [.int (iI v)]) (pre := []) (post := wM) (w2 := wL' ++ wM) ⟨hx, hb, hml, hown, hts⟩ hK hW c5 rfl rfl f5 rfl hh5 gL_law_X5_clearText rfl (by decide +kernel) ⟨Nat.le_of_ble_eq_true rfl, Nat.le_of_ble_eq_true rfl⟩ rfl hl.1 (Nat.le_of_ble_eq_true rfl) dL_law_414 ⟨Nat.le_refl _, Nat.le_refl _⟩ rfl rfl (fun H locs hW => ?_)
  refine lv_aload_n hx hb dL_law_417 rfl (lv_at hl 2 rfl) ?_
  refine m_callV (v := some (.int (iI v))) (ci := 6) (n := 0) (As := []) (rest := [.int (iI v)]) (st2 := [.int (iI v), .int (iI v)]) (pre := wL') (post := []) (w2 := wL' ++ wM') ⟨hx, hb, hml, hown, hts⟩ hK hW c6 (by rw [List.append_nil]) (by rw [List.append_nil]) f6 rfl hh6 gL_law_X6_clearText rfl (by decide +kernel) ⟨Nat.le_of_ble_eq_true rfl, Nat.le_of_ble_eq_true rfl⟩ rfl hl.1 (Nat.le_of_ble_eq_true rfl) dL_law_418 ⟨Nat.le_refl _, Nat.le_refl _⟩ rfl rfl (fun H locs hW => ?_)
  exact lv_icmp_eq (tgt := 699) hx hb dL_law_421 (by decide) (fun _ => kk wL' wM' H locs hS' hW) (fun q => absurd rfl q)
set_option maxHeartbeats 4000000 in
set_option maxRecDepth 100000 in
theorem law_run {p : Program} {e : Env} {s : State} {m : MethodId} {below : List Frame} {meth : Method} {c : Code} (l : Launch) {b L : Nat} {xs : Nat → Int32} (hL : L ≤ 1536) (C0 : lw_At p s m meth c b L xs) {D : va_G} {cI cV : ClassId} {g a : Nat → Nat} {ra : Nat → Nat → Nat} {b6 : Nat → Nat} (hK : va_K D vwCl (kt cI cV) s) {wL wM : va_W} {H : Heap} {locs : List Loc} {ls : Array Slot} {iv : Int} (hi : 0 ≤ iv ∧ iv + 3 ≤ L) (hS : Sim cI cV g a ra b6 wL wM) (hW : Wd D (fun q : Nat => s.heap.size ≤ q) (wL ++ wM) s.heap H locs) (hl : lv_has ls 4 [(0, .ref b), (1, .ref (g 0)), (2, .ref (b6 0)), (3, .int (iI iv))]) {Q : State → Prop} (kk : ∀ (wL' wM' : va_W) (H' : Heap) (locs' : List Loc), Sim cI cV g a ra b6 wL' wM' → Wd D (fun q : Nat => s.heap.size ≤ q) (wL' ++ wM') s.heap H' locs' → W p l e room_1 s m #[Value.ref b] below meth c H' locs' 600000 7302250 Q (F0 m 699 ls [])) : W p l e room_1 s m #[Value.ref b] below meth c H locs 600000 7302250 Q (F0 m 426 ls []) := by
  obtain ⟨hx, hb, hr, hml, hown, hts0, hX, hbl, hlocks, hgv⟩ := C0
  have hts : ∀ w ∈ wsL_law, w.before #[Value.ref b] s = true := fun w h => hts0 w (wsL_law_in w h)
  have hbA : ¬ (fun q : Nat => s.heap.size ≤ q) b := Nat.not_le.mpr hbl
  have hown : s.vm.findClass RL = some m.cls := hown
  obtain ⟨v, wL', wM', hS', c5, c6⟩ := go_run l D hS
  obtain ⟨hh5, fs, hh6⟩ := hS.heads
  obtain ⟨f5, f6⟩ := hS.fst hS'
  refine lv_aload_n hx hb dL_law_426 rfl (lv_at hl 1 rfl) ?_
  refine m_callV (v := some (.int (iI v))) (ci := 5) (n := 0) (As := []) (rest := []) (st2 := [.int (iI v)]) (pre := []) (post := wM) (w2 := wL' ++ wM) ⟨hx, hb, hml, hown, hts⟩ hK hW c5 rfl rfl f5 rfl hh5 gL_law_X5_run rfl (by decide +kernel) ⟨Nat.le_of_ble_eq_true rfl, Nat.le_of_ble_eq_true rfl⟩ rfl hl.1 (Nat.le_of_ble_eq_true rfl) dL_law_427 ⟨Nat.le_refl _, Nat.le_refl _⟩ rfl rfl (fun H locs hW => ?_)
  refine lv_aload_n hx hb dL_law_430 rfl (lv_at hl 2 rfl) ?_
  refine m_callV (v := some (.int (iI v))) (ci := 6) (n := 0) (As := []) (rest := [.int (iI v)]) (st2 := [.int (iI v), .int (iI v)]) (pre := wL') (post := []) (w2 := wL' ++ wM') ⟨hx, hb, hml, hown, hts⟩ hK hW c6 (by rw [List.append_nil]) (by rw [List.append_nil]) f6 rfl hh6 gL_law_X6_run rfl (by decide +kernel) ⟨Nat.le_of_ble_eq_true rfl, Nat.le_of_ble_eq_true rfl⟩ rfl hl.1 (Nat.le_of_ble_eq_true rfl) dL_law_431 ⟨Nat.le_refl _, Nat.le_refl _⟩ rfl rfl (fun H locs hW => ?_)
  exact lv_icmp_eq (tgt := 699) hx hb dL_law_434 (by decide) (fun _ => kk wL' wM' H locs hS' hW) (fun q => absurd rfl q)
set_option maxHeartbeats 4000000 in
set_option maxRecDepth 100000 in
theorem law_count {p : Program} {e : Env} {s : State} {m : MethodId} {below : List Frame} {meth : Method} {c : Code} (l : Launch) {b L : Nat} {xs : Nat → Int32} (hL : L ≤ 1536) (C0 : lw_At p s m meth c b L xs) {D : va_G} {cI cV : ClassId} {g a : Nat → Nat} {ra : Nat → Nat → Nat} {b6 : Nat → Nat} (hK : va_K D vwCl (kt cI cV) s) {wL wM : va_W} {H : Heap} {locs : List Loc} {ls : Array Slot} {iv : Int} (hi : 0 ≤ iv ∧ iv + 3 ≤ L) (hS : Sim cI cV g a ra b6 wL wM) (hW : Wd D (fun q : Nat => s.heap.size ≤ q) (wL ++ wM) s.heap H locs) (hl : lv_has ls 4 [(0, .ref b), (1, .ref (g 0)), (2, .ref (b6 0)), (3, .int (iI iv))]) {Q : State → Prop} (kk : ∀ (wL' wM' : va_W) (H' : Heap) (locs' : List Loc), Sim cI cV g a ra b6 wL' wM' → Wd D (fun q : Nat => s.heap.size ≤ q) (wL' ++ wM') s.heap H' locs' → W p l e room_1 s m #[Value.ref b] below meth c H' locs' 600000 7302250 Q (F0 m 699 ls [])) : W p l e room_1 s m #[Value.ref b] below meth c H locs 600000 7302250 Q (F0 m 439 ls []) := by
  obtain ⟨hx, hb, hr, hml, hown, hts0, hX, hbl, hlocks, hgv⟩ := C0
  have hts : ∀ w ∈ wsL_law, w.before #[Value.ref b] s = true := fun w h => hts0 w (wsL_law_in w h)
  have hbA : ¬ (fun q : Nat => s.heap.size ≤ q) b := Nat.not_le.mpr hbl
  have hown : s.vm.findClass RL = some m.cls := hown
  obtain ⟨v, c5, c6⟩ := go_count l D hS (x := (xs (iv + 1).toNat).toInt) (rg_of _)
  obtain ⟨hh5, fs, hh6⟩ := hS.heads
  refine lv_aload_n hx hb dL_law_439 rfl (lv_at hl 1 rfl) ?_
  refine lv_aload_n hx hb dL_law_440 rfl (lv_at hl 0 rfl) ?_
  refine lv_iload_n hx hb dL_law_441 rfl (lv_at hl 3 rfl) ?_
  refine j_c hx hb dL_law_442 ?_
  refine j_add hx hb dL_law_443 ?_
  refine j_sld hx hb hX hbl hbA hW.2.2 (by omega) hL dL_law_444 ?_
  refine p_callV (ci := 5) (n := 1) (As := [.int (iI (xs (iv + 1).toNat).toInt)]) (rest := []) ⟨hx, hb, hml, hown, hts⟩ hK c5 (va_P.mid (pre := []) (post := wM) hW.1) rfl hh5 gL_law_X5_count rfl (by decide +kernel) ⟨Nat.le_of_ble_eq_true rfl, Nat.le_of_ble_eq_true rfl⟩ rfl hl.1 (Nat.le_of_ble_eq_true rfl) dL_law_445 ⟨Nat.le_refl _, Nat.le_refl _⟩ rfl ?_
  refine lv_aload_n hx hb dL_law_448 rfl (lv_at hl 2 rfl) ?_
  refine lv_aload_n hx hb dL_law_449 rfl (lv_at hl 0 rfl) ?_
  refine lv_iload_n hx hb dL_law_450 rfl (lv_at hl 3 rfl) ?_
  refine j_c hx hb dL_law_451 ?_
  refine j_add hx hb dL_law_452 ?_
  refine j_sld hx hb hX hbl hbA hW.2.2 (by omega) hL dL_law_453 ?_
  refine p_callV (ci := 6) (n := 1) (As := [.int (iI (xs (iv + 1).toNat).toInt)]) (rest := [.int (iI v)]) ⟨hx, hb, hml, hown, hts⟩ hK c6 (va_P.mid (pre := wL) (post := []) (by rw [List.append_nil]; exact hW.1)) rfl hh6 gL_law_X6_count rfl (by decide +kernel) ⟨Nat.le_of_ble_eq_true rfl, Nat.le_of_ble_eq_true rfl⟩ rfl hl.1 (Nat.le_of_ble_eq_true rfl) dL_law_454 ⟨Nat.le_refl _, Nat.le_refl _⟩ rfl ?_
  exact lv_icmp_eq (tgt := 699) hx hb dL_law_457 (by decide) (fun _ => kk wL wM H locs hS hW) (fun q => absurd rfl q)
set_option maxHeartbeats 4000000 in
set_option maxRecDepth 100000 in
theorem law_elder {p : Program} {e : Env} {s : State} {m : MethodId} {below : List Frame} {meth : Method} {c : Code} (l : Launch) {b L : Nat} {xs : Nat → Int32} (hL : L ≤ 1536) (C0 : lw_At p s m meth c b L xs) {D : va_G} {cI cV : ClassId} {g a : Nat → Nat} {ra : Nat → Nat → Nat} {b6 : Nat → Nat} (hK : va_K D vwCl (kt cI cV) s) {wL wM : va_W} {H : Heap} {locs : List Loc} {ls : Array Slot} {iv : Int} (hi : 0 ≤ iv ∧ iv + 3 ≤ L) (hS : Sim cI cV g a ra b6 wL wM) (hW : Wd D (fun q : Nat => s.heap.size ≤ q) (wL ++ wM) s.heap H locs) (hl : lv_has ls 4 [(0, .ref b), (1, .ref (g 0)), (2, .ref (b6 0)), (3, .int (iI iv))]) {Q : State → Prop} (kk : ∀ (wL' wM' : va_W) (H' : Heap) (locs' : List Loc), Sim cI cV g a ra b6 wL' wM' → Wd D (fun q : Nat => s.heap.size ≤ q) (wL' ++ wM') s.heap H' locs' → W p l e room_1 s m #[Value.ref b] below meth c H' locs' 600000 7302250 Q (F0 m 699 ls [])) : W p l e room_1 s m #[Value.ref b] below meth c H locs 600000 7302250 Q (F0 m 462 ls []) := by
  obtain ⟨hx, hb, hr, hml, hown, hts0, hX, hbl, hlocks, hgv⟩ := C0
  have hts : ∀ w ∈ wsL_law, w.before #[Value.ref b] s = true := fun w h => hts0 w (wsL_law_in w h)
  have hbA : ¬ (fun q : Nat => s.heap.size ≤ q) b := Nat.not_le.mpr hbl
  have hown : s.vm.findClass RL = some m.cls := hown
  obtain ⟨v, c5, c6⟩ := go_elder l D hS (x := (xs (iv + 1).toNat).toInt) (y := (xs (iv + 2).toNat).toInt) (rg_of _) (rg_of _)
  obtain ⟨hh5, fs, hh6⟩ := hS.heads
  refine lv_aload_n hx hb dL_law_462 rfl (lv_at hl 1 rfl) ?_
  refine lv_aload_n hx hb dL_law_463 rfl (lv_at hl 0 rfl) ?_
  refine lv_iload_n hx hb dL_law_464 rfl (lv_at hl 3 rfl) ?_
  refine j_c hx hb dL_law_465 ?_
  refine j_add hx hb dL_law_466 ?_
  refine j_sld hx hb hX hbl hbA hW.2.2 (by omega) hL dL_law_467 ?_
  refine lv_aload_n hx hb dL_law_468 rfl (lv_at hl 0 rfl) ?_
  refine lv_iload_n hx hb dL_law_469 rfl (lv_at hl 3 rfl) ?_
  refine j_c hx hb dL_law_470 ?_
  refine j_add hx hb dL_law_471 ?_
  refine j_sld hx hb hX hbl hbA hW.2.2 (by omega) hL dL_law_472 ?_
  refine p_callV (ci := 5) (n := 2) (As := [.int (iI (xs (iv + 1).toNat).toInt), .int (iI (xs (iv + 2).toNat).toInt)]) (rest := []) ⟨hx, hb, hml, hown, hts⟩ hK c5 (va_P.mid (pre := []) (post := wM) hW.1) rfl hh5 gL_law_X5_elder rfl (by decide +kernel) ⟨Nat.le_of_ble_eq_true rfl, Nat.le_of_ble_eq_true rfl⟩ rfl hl.1 (Nat.le_of_ble_eq_true rfl) dL_law_473 ⟨Nat.le_refl _, Nat.le_refl _⟩ rfl ?_
  refine lv_aload_n hx hb dL_law_476 rfl (lv_at hl 2 rfl) ?_
  refine lv_aload_n hx hb dL_law_477 rfl (lv_at hl 0 rfl) ?_
  refine lv_iload_n hx hb dL_law_478 rfl (lv_at hl 3 rfl) ?_
  refine j_c hx hb dL_law_479 ?_
  refine j_add hx hb dL_law_480 ?_
  refine j_sld hx hb hX hbl hbA hW.2.2 (by omega) hL dL_law_481 ?_
  refine lv_aload_n hx hb dL_law_482 rfl (lv_at hl 0 rfl) ?_
  refine lv_iload_n hx hb dL_law_483 rfl (lv_at hl 3 rfl) ?_
  refine j_c hx hb dL_law_484 ?_
  refine j_add hx hb dL_law_485 ?_
  refine j_sld hx hb hX hbl hbA hW.2.2 (by omega) hL dL_law_486 ?_
  refine p_callV (ci := 6) (n := 2) (As := [.int (iI (xs (iv + 1).toNat).toInt), .int (iI (xs (iv + 2).toNat).toInt)]) (rest := [.int (iI v)]) ⟨hx, hb, hml, hown, hts⟩ hK c6 (va_P.mid (pre := wL) (post := []) (by rw [List.append_nil]; exact hW.1)) rfl hh6 gL_law_X6_elder rfl (by decide +kernel) ⟨Nat.le_of_ble_eq_true rfl, Nat.le_of_ble_eq_true rfl⟩ rfl hl.1 (Nat.le_of_ble_eq_true rfl) dL_law_487 ⟨Nat.le_refl _, Nat.le_refl _⟩ rfl ?_
  exact lv_icmp_eq (tgt := 699) hx hb dL_law_490 (by decide) (fun _ => kk wL wM H locs hS hW) (fun q => absurd rfl q)
set_option maxHeartbeats 4000000 in
set_option maxRecDepth 100000 in
theorem law_villager {p : Program} {e : Env} {s : State} {m : MethodId} {below : List Frame} {meth : Method} {c : Code} (l : Launch) {b L : Nat} {xs : Nat → Int32} (hL : L ≤ 1536) (C0 : lw_At p s m meth c b L xs) {D : va_G} {cI cV : ClassId} {g a : Nat → Nat} {ra : Nat → Nat → Nat} {b6 : Nat → Nat} (hK : va_K D vwCl (kt cI cV) s) {wL wM : va_W} {H : Heap} {locs : List Loc} {ls : Array Slot} {iv : Int} (hi : 0 ≤ iv ∧ iv + 3 ≤ L) (hS : Sim cI cV g a ra b6 wL wM) (hW : Wd D (fun q : Nat => s.heap.size ≤ q) (wL ++ wM) s.heap H locs) (hl : lv_has ls 4 [(0, .ref b), (1, .ref (g 0)), (2, .ref (b6 0)), (3, .int (iI iv))]) {Q : State → Prop} (kk : ∀ (wL' wM' : va_W) (H' : Heap) (locs' : List Loc), Sim cI cV g a ra b6 wL' wM' → Wd D (fun q : Nat => s.heap.size ≤ q) (wL' ++ wM') s.heap H' locs' → W p l e room_1 s m #[Value.ref b] below meth c H' locs' 600000 7302250 Q (F0 m 699 ls [])) : W p l e room_1 s m #[Value.ref b] below meth c H locs 600000 7302250 Q (F0 m 495 ls []) := by
  obtain ⟨hx, hb, hr, hml, hown, hts0, hX, hbl, hlocks, hgv⟩ := C0
  have hts : ∀ w ∈ wsL_law, w.before #[Value.ref b] s = true := fun w h => hts0 w (wsL_law_in w h)
  have hbA : ¬ (fun q : Nat => s.heap.size ≤ q) b := Nat.not_le.mpr hbl
  have hown : s.vm.findClass RL = some m.cls := hown
  obtain ⟨v, c5, c6⟩ := go_villager l D hS (x := (xs (iv + 1).toNat).toInt) (q := (xs (iv + 2).toNat).toInt) (rg_of _) (rg_of _)
  obtain ⟨hh5, fs, hh6⟩ := hS.heads
  refine lv_aload_n hx hb dL_law_495 rfl (lv_at hl 1 rfl) ?_
  refine lv_aload_n hx hb dL_law_496 rfl (lv_at hl 0 rfl) ?_
  refine lv_iload_n hx hb dL_law_497 rfl (lv_at hl 3 rfl) ?_
  refine j_c hx hb dL_law_498 ?_
  refine j_add hx hb dL_law_499 ?_
  refine j_sld hx hb hX hbl hbA hW.2.2 (by omega) hL dL_law_500 ?_
  refine lv_aload_n hx hb dL_law_501 rfl (lv_at hl 0 rfl) ?_
  refine lv_iload_n hx hb dL_law_502 rfl (lv_at hl 3 rfl) ?_
  refine j_c hx hb dL_law_503 ?_
  refine j_add hx hb dL_law_504 ?_
  refine j_sld hx hb hX hbl hbA hW.2.2 (by omega) hL dL_law_505 ?_
  refine p_callV (ci := 5) (n := 2) (As := [.int (iI (xs (iv + 1).toNat).toInt), .int (iI (xs (iv + 2).toNat).toInt)]) (rest := []) ⟨hx, hb, hml, hown, hts⟩ hK c5 (va_P.mid (pre := []) (post := wM) hW.1) rfl hh5 gL_law_X5_villager rfl (by decide +kernel) ⟨Nat.le_of_ble_eq_true rfl, Nat.le_of_ble_eq_true rfl⟩ rfl hl.1 (Nat.le_of_ble_eq_true rfl) dL_law_506 ⟨Nat.le_refl _, Nat.le_refl _⟩ rfl ?_
  refine lv_aload_n hx hb dL_law_509 rfl (lv_at hl 2 rfl) ?_
  refine lv_aload_n hx hb dL_law_510 rfl (lv_at hl 0 rfl) ?_
  refine lv_iload_n hx hb dL_law_511 rfl (lv_at hl 3 rfl) ?_
  refine j_c hx hb dL_law_512 ?_
  refine j_add hx hb dL_law_513 ?_
  refine j_sld hx hb hX hbl hbA hW.2.2 (by omega) hL dL_law_514 ?_
  refine lv_aload_n hx hb dL_law_515 rfl (lv_at hl 0 rfl) ?_
  refine lv_iload_n hx hb dL_law_516 rfl (lv_at hl 3 rfl) ?_
  refine j_c hx hb dL_law_517 ?_
  refine j_add hx hb dL_law_518 ?_
  refine j_sld hx hb hX hbl hbA hW.2.2 (by omega) hL dL_law_519 ?_
  refine p_callV (ci := 6) (n := 2) (As := [.int (iI (xs (iv + 1).toNat).toInt), .int (iI (xs (iv + 2).toNat).toInt)]) (rest := [.int (iI v)]) ⟨hx, hb, hml, hown, hts⟩ hK c6 (va_P.mid (pre := wL) (post := []) (by rw [List.append_nil]; exact hW.1)) rfl hh6 gL_law_X6_villager rfl (by decide +kernel) ⟨Nat.le_of_ble_eq_true rfl, Nat.le_of_ble_eq_true rfl⟩ rfl hl.1 (Nat.le_of_ble_eq_true rfl) dL_law_520 ⟨Nat.le_refl _, Nat.le_refl _⟩ rfl ?_
  exact lv_icmp_eq (tgt := 699) hx hb dL_law_523 (by decide) (fun _ => kk wL wM H locs hS hW) (fun q => absurd rfl q)
set_option maxHeartbeats 4000000 in
set_option maxRecDepth 100000 in
theorem law_entry {p : Program} {e : Env} {s : State} {m : MethodId} {below : List Frame} {meth : Method} {c : Code} (l : Launch) {b L : Nat} {xs : Nat → Int32} (hL : L ≤ 1536) (C0 : lw_At p s m meth c b L xs) {D : va_G} {cI cV : ClassId} {g a : Nat → Nat} {ra : Nat → Nat → Nat} {b6 : Nat → Nat} (hK : va_K D vwCl (kt cI cV) s) {wL wM : va_W} {H : Heap} {locs : List Loc} {ls : Array Slot} {iv : Int} (hi : 0 ≤ iv ∧ iv + 3 ≤ L) (hS : Sim cI cV g a ra b6 wL wM) (hW : Wd D (fun q : Nat => s.heap.size ≤ q) (wL ++ wM) s.heap H locs) (hl : lv_has ls 4 [(0, .ref b), (1, .ref (g 0)), (2, .ref (b6 0)), (3, .int (iI iv))]) {Q : State → Prop} (kk : ∀ (wL' wM' : va_W) (H' : Heap) (locs' : List Loc), Sim cI cV g a ra b6 wL' wM' → Wd D (fun q : Nat => s.heap.size ≤ q) (wL' ++ wM') s.heap H' locs' → W p l e room_1 s m #[Value.ref b] below meth c H' locs' 600000 7302250 Q (F0 m 699 ls [])) : W p l e room_1 s m #[Value.ref b] below meth c H locs 600000 7302250 Q (F0 m 528 ls []) := by
  obtain ⟨hx, hb, hr, hml, hown, hts0, hX, hbl, hlocks, hgv⟩ := C0
  have hts : ∀ w ∈ wsL_law, w.before #[Value.ref b] s = true := fun w h => hts0 w (wsL_law_in w h)
  have hbA : ¬ (fun q : Nat => s.heap.size ≤ q) b := Nat.not_le.mpr hbl
  have hown : s.vm.findClass RL = some m.cls := hown
  obtain ⟨v, c5, c6⟩ := go_entry l D hS (y := (xs (iv + 1).toNat).toInt) (q := (xs (iv + 2).toNat).toInt) (rg_of _) (rg_of _)
  obtain ⟨hh5, fs, hh6⟩ := hS.heads
  refine lv_aload_n hx hb dL_law_528 rfl (lv_at hl 1 rfl) ?_
  refine lv_aload_n hx hb dL_law_529 rfl (lv_at hl 0 rfl) ?_
  refine lv_iload_n hx hb dL_law_530 rfl (lv_at hl 3 rfl) ?_
  refine j_c hx hb dL_law_531 ?_
  refine j_add hx hb dL_law_532 ?_
  refine j_sld hx hb hX hbl hbA hW.2.2 (by omega) hL dL_law_533 ?_
  refine lv_aload_n hx hb dL_law_534 rfl (lv_at hl 0 rfl) ?_
  refine lv_iload_n hx hb dL_law_535 rfl (lv_at hl 3 rfl) ?_
  refine j_c hx hb dL_law_536 ?_
  refine j_add hx hb dL_law_537 ?_
  refine j_sld hx hb hX hbl hbA hW.2.2 (by omega) hL dL_law_538 ?_
  refine p_callV (ci := 5) (n := 2) (As := [.int (iI (xs (iv + 1).toNat).toInt), .int (iI (xs (iv + 2).toNat).toInt)]) (rest := []) ⟨hx, hb, hml, hown, hts⟩ hK c5 (va_P.mid (pre := []) (post := wM) hW.1) rfl hh5 gL_law_X5_entry rfl (by decide +kernel) ⟨Nat.le_of_ble_eq_true rfl, Nat.le_of_ble_eq_true rfl⟩ rfl hl.1 (Nat.le_of_ble_eq_true rfl) dL_law_539 ⟨Nat.le_refl _, Nat.le_refl _⟩ rfl ?_
  refine lv_aload_n hx hb dL_law_542 rfl (lv_at hl 2 rfl) ?_
  refine lv_aload_n hx hb dL_law_543 rfl (lv_at hl 0 rfl) ?_
  refine lv_iload_n hx hb dL_law_544 rfl (lv_at hl 3 rfl) ?_
  refine j_c hx hb dL_law_545 ?_
  refine j_add hx hb dL_law_546 ?_
  refine j_sld hx hb hX hbl hbA hW.2.2 (by omega) hL dL_law_547 ?_
  refine lv_aload_n hx hb dL_law_548 rfl (lv_at hl 0 rfl) ?_
  refine lv_iload_n hx hb dL_law_549 rfl (lv_at hl 3 rfl) ?_
  refine j_c hx hb dL_law_550 ?_
  refine j_add hx hb dL_law_551 ?_
  refine j_sld hx hb hX hbl hbA hW.2.2 (by omega) hL dL_law_552 ?_
  refine p_callV (ci := 6) (n := 2) (As := [.int (iI (xs (iv + 1).toNat).toInt), .int (iI (xs (iv + 2).toNat).toInt)]) (rest := [.int (iI v)]) ⟨hx, hb, hml, hown, hts⟩ hK c6 (va_P.mid (pre := wL) (post := []) (by rw [List.append_nil]; exact hW.1)) rfl hh6 gL_law_X6_entry rfl (by decide +kernel) ⟨Nat.le_of_ble_eq_true rfl, Nat.le_of_ble_eq_true rfl⟩ rfl hl.1 (Nat.le_of_ble_eq_true rfl) dL_law_553 ⟨Nat.le_refl _, Nat.le_refl _⟩ rfl ?_
  exact lv_icmp_eq (tgt := 699) hx hb dL_law_556 (by decide) (fun _ => kk wL wM H locs hS hW) (fun q => absurd rfl q)
set_option maxHeartbeats 4000000 in
set_option maxRecDepth 100000 in
theorem law_draw {p : Program} {e : Env} {s : State} {m : MethodId} {below : List Frame} {meth : Method} {c : Code} (l : Launch) {b L : Nat} {xs : Nat → Int32} (hL : L ≤ 1536) (C0 : lw_At p s m meth c b L xs) {D : va_G} {cI cV : ClassId} {g a : Nat → Nat} {ra : Nat → Nat → Nat} {b6 : Nat → Nat} (hK : va_K D vwCl (kt cI cV) s) {wL wM : va_W} {H : Heap} {locs : List Loc} {ls : Array Slot} {iv : Int} (hi : 0 ≤ iv ∧ iv + 3 ≤ L) (hS : Sim cI cV g a ra b6 wL wM) (hW : Wd D (fun q : Nat => s.heap.size ≤ q) (wL ++ wM) s.heap H locs) (hl : lv_has ls 4 [(0, .ref b), (1, .ref (g 0)), (2, .ref (b6 0)), (3, .int (iI iv))]) {Q : State → Prop} (kk : ∀ (wL' wM' : va_W) (H' : Heap) (locs' : List Loc), Sim cI cV g a ra b6 wL' wM' → Wd D (fun q : Nat => s.heap.size ≤ q) (wL' ++ wM') s.heap H' locs' → W p l e room_1 s m #[Value.ref b] below meth c H' locs' 600000 7302250 Q (F0 m 699 ls [])) : W p l e room_1 s m #[Value.ref b] below meth c H locs 600000 7302250 Q (F0 m 561 ls []) := by
  obtain ⟨hx, hb, hr, hml, hown, hts0, hX, hbl, hlocks, hgv⟩ := C0
  have hts : ∀ w ∈ wsL_law, w.before #[Value.ref b] s = true := fun w h => hts0 w (wsL_law_in w h)
  have hbA : ¬ (fun q : Nat => s.heap.size ≤ q) b := Nat.not_le.mpr hbl
  have hown : s.vm.findClass RL = some m.cls := hown
  obtain ⟨v, c5, c6⟩ := go_draw l D hS (x := (xs (iv + 1).toNat).toInt) (q := (xs (iv + 2).toNat).toInt) (rg_of _) (rg_of _)
  obtain ⟨hh5, fs, hh6⟩ := hS.heads
  refine lv_aload_n hx hb dL_law_561 rfl (lv_at hl 1 rfl) ?_
  refine lv_aload_n hx hb dL_law_562 rfl (lv_at hl 0 rfl) ?_
  refine lv_iload_n hx hb dL_law_563 rfl (lv_at hl 3 rfl) ?_
  refine j_c hx hb dL_law_564 ?_
  refine j_add hx hb dL_law_565 ?_
  refine j_sld hx hb hX hbl hbA hW.2.2 (by omega) hL dL_law_566 ?_
  refine lv_aload_n hx hb dL_law_567 rfl (lv_at hl 0 rfl) ?_
  refine lv_iload_n hx hb dL_law_568 rfl (lv_at hl 3 rfl) ?_
  refine j_c hx hb dL_law_569 ?_
  refine j_add hx hb dL_law_570 ?_
  refine j_sld hx hb hX hbl hbA hW.2.2 (by omega) hL dL_law_571 ?_
  refine p_callV (ci := 5) (n := 2) (As := [.int (iI (xs (iv + 1).toNat).toInt), .int (iI (xs (iv + 2).toNat).toInt)]) (rest := []) ⟨hx, hb, hml, hown, hts⟩ hK c5 (va_P.mid (pre := []) (post := wM) hW.1) rfl hh5 gL_law_X5_draw rfl (by decide +kernel) ⟨Nat.le_of_ble_eq_true rfl, Nat.le_of_ble_eq_true rfl⟩ rfl hl.1 (Nat.le_of_ble_eq_true rfl) dL_law_572 ⟨Nat.le_refl _, Nat.le_refl _⟩ rfl ?_
  refine lv_aload_n hx hb dL_law_575 rfl (lv_at hl 2 rfl) ?_
  refine lv_aload_n hx hb dL_law_576 rfl (lv_at hl 0 rfl) ?_
  refine lv_iload_n hx hb dL_law_577 rfl (lv_at hl 3 rfl) ?_
  refine j_c hx hb dL_law_578 ?_
  refine j_add hx hb dL_law_579 ?_
  refine j_sld hx hb hX hbl hbA hW.2.2 (by omega) hL dL_law_580 ?_
  refine lv_aload_n hx hb dL_law_581 rfl (lv_at hl 0 rfl) ?_
  refine lv_iload_n hx hb dL_law_582 rfl (lv_at hl 3 rfl) ?_
  refine j_c hx hb dL_law_583 ?_
  refine j_add hx hb dL_law_584 ?_
  refine j_sld hx hb hX hbl hbA hW.2.2 (by omega) hL dL_law_585 ?_
  refine p_callV (ci := 6) (n := 2) (As := [.int (iI (xs (iv + 1).toNat).toInt), .int (iI (xs (iv + 2).toNat).toInt)]) (rest := [.int (iI v)]) ⟨hx, hb, hml, hown, hts⟩ hK c6 (va_P.mid (pre := wL) (post := []) (by rw [List.append_nil]; exact hW.1)) rfl hh6 gL_law_X6_draw rfl (by decide +kernel) ⟨Nat.le_of_ble_eq_true rfl, Nat.le_of_ble_eq_true rfl⟩ rfl hl.1 (Nat.le_of_ble_eq_true rfl) dL_law_586 ⟨Nat.le_refl _, Nat.le_refl _⟩ rfl ?_
  exact lv_icmp_eq (tgt := 699) hx hb dL_law_589 (by decide) (fun _ => kk wL wM H locs hS hW) (fun q => absurd rfl q)
set_option maxHeartbeats 4000000 in
set_option maxRecDepth 100000 in
theorem law_missing {p : Program} {e : Env} {s : State} {m : MethodId} {below : List Frame} {meth : Method} {c : Code} (l : Launch) {b L : Nat} {xs : Nat → Int32} (hL : L ≤ 1536) (C0 : lw_At p s m meth c b L xs) {D : va_G} {cI cV : ClassId} {g a : Nat → Nat} {ra : Nat → Nat → Nat} {b6 : Nat → Nat} (hK : va_K D vwCl (kt cI cV) s) {wL wM : va_W} {H : Heap} {locs : List Loc} {ls : Array Slot} {iv : Int} (hi : 0 ≤ iv ∧ iv + 3 ≤ L) (hS : Sim cI cV g a ra b6 wL wM) (hW : Wd D (fun q : Nat => s.heap.size ≤ q) (wL ++ wM) s.heap H locs) (hl : lv_has ls 4 [(0, .ref b), (1, .ref (g 0)), (2, .ref (b6 0)), (3, .int (iI iv))]) {Q : State → Prop} (kk : ∀ (wL' wM' : va_W) (H' : Heap) (locs' : List Loc), Sim cI cV g a ra b6 wL' wM' → Wd D (fun q : Nat => s.heap.size ≤ q) (wL' ++ wM') s.heap H' locs' → W p l e room_1 s m #[Value.ref b] below meth c H' locs' 600000 7302250 Q (F0 m 699 ls [])) : W p l e room_1 s m #[Value.ref b] below meth c H locs 600000 7302250 Q (F0 m 594 ls []) := by
  obtain ⟨hx, hb, hr, hml, hown, hts0, hX, hbl, hlocks, hgv⟩ := C0
  have hts : ∀ w ∈ wsL_law, w.before #[Value.ref b] s = true := fun w h => hts0 w (wsL_law_in w h)
  have hbA : ¬ (fun q : Nat => s.heap.size ≤ q) b := Nat.not_le.mpr hbl
  have hown : s.vm.findClass RL = some m.cls := hown
  obtain ⟨v, c5, c6⟩ := go_missing l D hS (y := (xs (iv + 1).toNat).toInt) (rg_of _)
  obtain ⟨hh5, fs, hh6⟩ := hS.heads
  refine lv_aload_n hx hb dL_law_594 rfl (lv_at hl 1 rfl) ?_
  refine lv_aload_n hx hb dL_law_595 rfl (lv_at hl 0 rfl) ?_
  refine lv_iload_n hx hb dL_law_596 rfl (lv_at hl 3 rfl) ?_
  refine j_c hx hb dL_law_597 ?_
  refine j_add hx hb dL_law_598 ?_
  refine j_sld hx hb hX hbl hbA hW.2.2 (by omega) hL dL_law_599 ?_
  refine p_callV (ci := 5) (n := 1) (As := [.int (iI (xs (iv + 1).toNat).toInt)]) (rest := []) ⟨hx, hb, hml, hown, hts⟩ hK c5 (va_P.mid (pre := []) (post := wM) hW.1) rfl hh5 gL_law_X5_missing rfl (by decide +kernel) ⟨Nat.le_of_ble_eq_true rfl, Nat.le_of_ble_eq_true rfl⟩ rfl hl.1 (Nat.le_of_ble_eq_true rfl) dL_law_600 ⟨Nat.le_refl _, Nat.le_refl _⟩ rfl ?_
  refine lv_aload_n hx hb dL_law_603 rfl (lv_at hl 2 rfl) ?_
  refine lv_aload_n hx hb dL_law_604 rfl (lv_at hl 0 rfl) ?_
  refine lv_iload_n hx hb dL_law_605 rfl (lv_at hl 3 rfl) ?_
  refine j_c hx hb dL_law_606 ?_
  refine j_add hx hb dL_law_607 ?_
  refine j_sld hx hb hX hbl hbA hW.2.2 (by omega) hL dL_law_608 ?_
  refine p_callV (ci := 6) (n := 1) (As := [.int (iI (xs (iv + 1).toNat).toInt)]) (rest := [.int (iI v)]) ⟨hx, hb, hml, hown, hts⟩ hK c6 (va_P.mid (pre := wL) (post := []) (by rw [List.append_nil]; exact hW.1)) rfl hh6 gL_law_X6_missing rfl (by decide +kernel) ⟨Nat.le_of_ble_eq_true rfl, Nat.le_of_ble_eq_true rfl⟩ rfl hl.1 (Nat.le_of_ble_eq_true rfl) dL_law_609 ⟨Nat.le_refl _, Nat.le_refl _⟩ rfl ?_
  exact lv_icmp_eq (tgt := 699) hx hb dL_law_612 (by decide) (fun _ => kk wL wM H locs hS hW) (fun q => absurd rfl q)
set_option maxHeartbeats 4000000 in
set_option maxRecDepth 100000 in
theorem law_reachable {p : Program} {e : Env} {s : State} {m : MethodId} {below : List Frame} {meth : Method} {c : Code} (l : Launch) {b L : Nat} {xs : Nat → Int32} (hL : L ≤ 1536) (C0 : lw_At p s m meth c b L xs) {D : va_G} {cI cV : ClassId} {g a : Nat → Nat} {ra : Nat → Nat → Nat} {b6 : Nat → Nat} (hK : va_K D vwCl (kt cI cV) s) {wL wM : va_W} {H : Heap} {locs : List Loc} {ls : Array Slot} {iv : Int} (hi : 0 ≤ iv ∧ iv + 3 ≤ L) (hS : Sim cI cV g a ra b6 wL wM) (hW : Wd D (fun q : Nat => s.heap.size ≤ q) (wL ++ wM) s.heap H locs) (hl : lv_has ls 4 [(0, .ref b), (1, .ref (g 0)), (2, .ref (b6 0)), (3, .int (iI iv))]) {Q : State → Prop} (kk : ∀ (wL' wM' : va_W) (H' : Heap) (locs' : List Loc), Sim cI cV g a ra b6 wL' wM' → Wd D (fun q : Nat => s.heap.size ≤ q) (wL' ++ wM') s.heap H' locs' → W p l e room_1 s m #[Value.ref b] below meth c H' locs' 600000 7302250 Q (F0 m 699 ls [])) : W p l e room_1 s m #[Value.ref b] below meth c H locs 600000 7302250 Q (F0 m 617 ls []) := by
  obtain ⟨hx, hb, hr, hml, hown, hts0, hX, hbl, hlocks, hgv⟩ := C0
  have hts : ∀ w ∈ wsL_law, w.before #[Value.ref b] s = true := fun w h => hts0 w (wsL_law_in w h)
  have hbA : ¬ (fun q : Nat => s.heap.size ≤ q) b := Nat.not_le.mpr hbl
  have hown : s.vm.findClass RL = some m.cls := hown
  obtain ⟨v, wM', hS', c5, c6⟩ := go_reachable l D hS
  obtain ⟨hh5, fs, hh6⟩ := hS.heads
  obtain ⟨f5, f6⟩ := hS.fst hS'
  refine lv_aload_n hx hb dL_law_617 rfl (lv_at hl 1 rfl) ?_
  refine p_callV (ci := 5) (n := 0) (As := []) (rest := []) ⟨hx, hb, hml, hown, hts⟩ hK c5 (va_P.mid (pre := []) (post := wM) hW.1) rfl hh5 gL_law_X5_reachable rfl (by decide +kernel) ⟨Nat.le_of_ble_eq_true rfl, Nat.le_of_ble_eq_true rfl⟩ rfl hl.1 (Nat.le_of_ble_eq_true rfl) dL_law_618 ⟨Nat.le_refl _, Nat.le_refl _⟩ rfl ?_
  refine lv_aload_n hx hb dL_law_621 rfl (lv_at hl 2 rfl) ?_
  refine m_callV (v := some (.int (iI v))) (ci := 6) (n := 0) (As := []) (rest := [.int (iI v)]) (st2 := [.int (iI v), .int (iI v)]) (pre := wL) (post := []) (w2 := wL ++ wM') ⟨hx, hb, hml, hown, hts⟩ hK hW c6 (by rw [List.append_nil]) (by rw [List.append_nil]) f6 rfl hh6 gL_law_X6_reachable rfl (by decide +kernel) ⟨Nat.le_of_ble_eq_true rfl, Nat.le_of_ble_eq_true rfl⟩ rfl hl.1 (Nat.le_of_ble_eq_true rfl) dL_law_622 ⟨Nat.le_refl _, Nat.le_refl _⟩ rfl rfl (fun H locs hW => ?_)
  exact lv_icmp_eq (tgt := 699) hx hb dL_law_625 (by decide) (fun _ => kk wL wM' H locs hS' hW) (fun q => absurd rfl q)
set_option maxHeartbeats 4000000 in
set_option maxRecDepth 100000 in
theorem law_nextDrawn {p : Program} {e : Env} {s : State} {m : MethodId} {below : List Frame} {meth : Method} {c : Code} (l : Launch) {b L : Nat} {xs : Nat → Int32} (hL : L ≤ 1536) (C0 : lw_At p s m meth c b L xs) {D : va_G} {cI cV : ClassId} {g a : Nat → Nat} {ra : Nat → Nat → Nat} {b6 : Nat → Nat} (hK : va_K D vwCl (kt cI cV) s) {wL wM : va_W} {H : Heap} {locs : List Loc} {ls : Array Slot} {iv : Int} (hi : 0 ≤ iv ∧ iv + 3 ≤ L) (hS : Sim cI cV g a ra b6 wL wM) (hW : Wd D (fun q : Nat => s.heap.size ≤ q) (wL ++ wM) s.heap H locs) (hl : lv_has ls 4 [(0, .ref b), (1, .ref (g 0)), (2, .ref (b6 0)), (3, .int (iI iv))]) {Q : State → Prop} (kk : ∀ (wL' wM' : va_W) (H' : Heap) (locs' : List Loc), Sim cI cV g a ra b6 wL' wM' → Wd D (fun q : Nat => s.heap.size ≤ q) (wL' ++ wM') s.heap H' locs' → W p l e room_1 s m #[Value.ref b] below meth c H' locs' 600000 7302250 Q (F0 m 699 ls [])) : W p l e room_1 s m #[Value.ref b] below meth c H locs 600000 7302250 Q (F0 m 630 ls []) := by
  obtain ⟨hx, hb, hr, hml, hown, hts0, hX, hbl, hlocks, hgv⟩ := C0
  have hts : ∀ w ∈ wsL_law, w.before #[Value.ref b] s = true := fun w h => hts0 w (wsL_law_in w h)
  have hbA : ¬ (fun q : Nat => s.heap.size ≤ q) b := Nat.not_le.mpr hbl
  have hown : s.vm.findClass RL = some m.cls := hown
  obtain ⟨v, c5, c6⟩ := go_nextDrawn l D hS (y := (xs (iv + 1).toNat).toInt) (rg_of _)
  obtain ⟨hh5, fs, hh6⟩ := hS.heads
  refine lv_aload_n hx hb dL_law_630 rfl (lv_at hl 1 rfl) ?_
  refine lv_aload_n hx hb dL_law_631 rfl (lv_at hl 0 rfl) ?_
  refine lv_iload_n hx hb dL_law_632 rfl (lv_at hl 3 rfl) ?_
  refine j_c hx hb dL_law_633 ?_
  refine j_add hx hb dL_law_634 ?_
  refine j_sld hx hb hX hbl hbA hW.2.2 (by omega) hL dL_law_635 ?_
  refine p_callV (ci := 5) (n := 1) (As := [.int (iI (xs (iv + 1).toNat).toInt)]) (rest := []) ⟨hx, hb, hml, hown, hts⟩ hK c5 (va_P.mid (pre := []) (post := wM) hW.1) rfl hh5 gL_law_X5_nextDrawn rfl (by decide +kernel) ⟨Nat.le_of_ble_eq_true rfl, Nat.le_of_ble_eq_true rfl⟩ rfl hl.1 (Nat.le_of_ble_eq_true rfl) dL_law_636 ⟨Nat.le_refl _, Nat.le_refl _⟩ rfl ?_
  refine lv_aload_n hx hb dL_law_639 rfl (lv_at hl 2 rfl) ?_
  refine lv_aload_n hx hb dL_law_640 rfl (lv_at hl 0 rfl) ?_
  refine lv_iload_n hx hb dL_law_641 rfl (lv_at hl 3 rfl) ?_
  refine j_c hx hb dL_law_642 ?_
  refine j_add hx hb dL_law_643 ?_
  refine j_sld hx hb hX hbl hbA hW.2.2 (by omega) hL dL_law_644 ?_
  refine p_callV (ci := 6) (n := 1) (As := [.int (iI (xs (iv + 1).toNat).toInt)]) (rest := [.int (iI v)]) ⟨hx, hb, hml, hown, hts⟩ hK c6 (va_P.mid (pre := wL) (post := []) (by rw [List.append_nil]; exact hW.1)) rfl hh6 gL_law_X6_nextDrawn rfl (by decide +kernel) ⟨Nat.le_of_ble_eq_true rfl, Nat.le_of_ble_eq_true rfl⟩ rfl hl.1 (Nat.le_of_ble_eq_true rfl) dL_law_645 ⟨Nat.le_refl _, Nat.le_refl _⟩ rfl ?_
  exact lv_icmp_eq (tgt := 699) hx hb dL_law_648 (by decide) (fun _ => kk wL wM H locs hS hW) (fun q => absurd rfl q)
set_option maxHeartbeats 4000000 in
set_option maxRecDepth 100000 in
theorem law_spare {p : Program} {e : Env} {s : State} {m : MethodId} {below : List Frame} {meth : Method} {c : Code} (l : Launch) {b L : Nat} {xs : Nat → Int32} (hL : L ≤ 1536) (C0 : lw_At p s m meth c b L xs) {D : va_G} {cI cV : ClassId} {g a : Nat → Nat} {ra : Nat → Nat → Nat} {b6 : Nat → Nat} (hK : va_K D vwCl (kt cI cV) s) {wL wM : va_W} {H : Heap} {locs : List Loc} {ls : Array Slot} {iv : Int} (hi : 0 ≤ iv ∧ iv + 3 ≤ L) (hS : Sim cI cV g a ra b6 wL wM) (hW : Wd D (fun q : Nat => s.heap.size ≤ q) (wL ++ wM) s.heap H locs) (hl : lv_has ls 4 [(0, .ref b), (1, .ref (g 0)), (2, .ref (b6 0)), (3, .int (iI iv))]) {Q : State → Prop} (kk : ∀ (wL' wM' : va_W) (H' : Heap) (locs' : List Loc), Sim cI cV g a ra b6 wL' wM' → Wd D (fun q : Nat => s.heap.size ≤ q) (wL' ++ wM') s.heap H' locs' → W p l e room_1 s m #[Value.ref b] below meth c H' locs' 600000 7302250 Q (F0 m 699 ls [])) : W p l e room_1 s m #[Value.ref b] below meth c H locs 600000 7302250 Q (F0 m 653 ls []) := by
  obtain ⟨hx, hb, hr, hml, hown, hts0, hX, hbl, hlocks, hgv⟩ := C0
  have hts : ∀ w ∈ wsL_law, w.before #[Value.ref b] s = true := fun w h => hts0 w (wsL_law_in w h)
  have hbA : ¬ (fun q : Nat => s.heap.size ≤ q) b := Nat.not_le.mpr hbl
  have hown : s.vm.findClass RL = some m.cls := hown
  obtain ⟨v, c5, c6⟩ := go_spare l D hS
  obtain ⟨hh5, fs, hh6⟩ := hS.heads
  refine lv_aload_n hx hb dL_law_653 rfl (lv_at hl 1 rfl) ?_
  refine p_callV (ci := 5) (n := 0) (As := []) (rest := []) ⟨hx, hb, hml, hown, hts⟩ hK c5 (va_P.mid (pre := []) (post := wM) hW.1) rfl hh5 gL_law_X5_spare rfl (by decide +kernel) ⟨Nat.le_of_ble_eq_true rfl, Nat.le_of_ble_eq_true rfl⟩ rfl hl.1 (Nat.le_of_ble_eq_true rfl) dL_law_654 ⟨Nat.le_refl _, Nat.le_refl _⟩ rfl ?_
  refine lv_aload_n hx hb dL_law_657 rfl (lv_at hl 2 rfl) ?_
  refine p_callV (ci := 6) (n := 0) (As := []) (rest := [.int (iI v)]) ⟨hx, hb, hml, hown, hts⟩ hK c6 (va_P.mid (pre := wL) (post := []) (by rw [List.append_nil]; exact hW.1)) rfl hh6 gL_law_X6_spare rfl (by decide +kernel) ⟨Nat.le_of_ble_eq_true rfl, Nat.le_of_ble_eq_true rfl⟩ rfl hl.1 (Nat.le_of_ble_eq_true rfl) dL_law_658 ⟨Nat.le_refl _, Nat.le_refl _⟩ rfl ?_
  exact lv_icmp_eq (tgt := 699) hx hb dL_law_661 (by decide) (fun _ => kk wL wM H locs hS hW) (fun q => absurd rfl q)
set_option maxHeartbeats 4000000 in
set_option maxRecDepth 100000 in
theorem law_lotFor {p : Program} {e : Env} {s : State} {m : MethodId} {below : List Frame} {meth : Method} {c : Code} (l : Launch) {b L : Nat} {xs : Nat → Int32} (hL : L ≤ 1536) (C0 : lw_At p s m meth c b L xs) {D : va_G} {cI cV : ClassId} {g a : Nat → Nat} {ra : Nat → Nat → Nat} {b6 : Nat → Nat} (hK : va_K D vwCl (kt cI cV) s) {wL wM : va_W} {H : Heap} {locs : List Loc} {ls : Array Slot} {iv : Int} (hi : 0 ≤ iv ∧ iv + 3 ≤ L) (hS : Sim cI cV g a ra b6 wL wM) (hW : Wd D (fun q : Nat => s.heap.size ≤ q) (wL ++ wM) s.heap H locs) (hl : lv_has ls 4 [(0, .ref b), (1, .ref (g 0)), (2, .ref (b6 0)), (3, .int (iI iv))]) {Q : State → Prop} (kk : ∀ (wL' wM' : va_W) (H' : Heap) (locs' : List Loc), Sim cI cV g a ra b6 wL' wM' → Wd D (fun q : Nat => s.heap.size ≤ q) (wL' ++ wM') s.heap H' locs' → W p l e room_1 s m #[Value.ref b] below meth c H' locs' 600000 7302250 Q (F0 m 699 ls [])) : W p l e room_1 s m #[Value.ref b] below meth c H locs 600000 7302250 Q (F0 m 666 ls []) := by
  obtain ⟨hx, hb, hr, hml, hown, hts0, hX, hbl, hlocks, hgv⟩ := C0
  have hts : ∀ w ∈ wsL_law, w.before #[Value.ref b] s = true := fun w h => hts0 w (wsL_law_in w h)
  have hbA : ¬ (fun q : Nat => s.heap.size ≤ q) b := Nat.not_le.mpr hbl
  have hown : s.vm.findClass RL = some m.cls := hown
  obtain ⟨v, c5, c6⟩ := go_lotFor l D hS (x := (xs (iv + 1).toNat).toInt) (y := (xs (iv + 2).toNat).toInt) (rg_of _) (rg_of _)
  obtain ⟨hh5, fs, hh6⟩ := hS.heads
  refine lv_aload_n hx hb dL_law_666 rfl (lv_at hl 1 rfl) ?_
  refine lv_aload_n hx hb dL_law_667 rfl (lv_at hl 0 rfl) ?_
  refine lv_iload_n hx hb dL_law_668 rfl (lv_at hl 3 rfl) ?_
  refine j_c hx hb dL_law_669 ?_
  refine j_add hx hb dL_law_670 ?_
  refine j_sld hx hb hX hbl hbA hW.2.2 (by omega) hL dL_law_671 ?_
  refine lv_aload_n hx hb dL_law_672 rfl (lv_at hl 0 rfl) ?_
  refine lv_iload_n hx hb dL_law_673 rfl (lv_at hl 3 rfl) ?_
  refine j_c hx hb dL_law_674 ?_
  refine j_add hx hb dL_law_675 ?_
  refine j_sld hx hb hX hbl hbA hW.2.2 (by omega) hL dL_law_676 ?_
  refine p_callV (ci := 5) (n := 2) (As := [.int (iI (xs (iv + 1).toNat).toInt), .int (iI (xs (iv + 2).toNat).toInt)]) (rest := []) ⟨hx, hb, hml, hown, hts⟩ hK c5 (va_P.mid (pre := []) (post := wM) hW.1) rfl hh5 gL_law_X5_lotFor rfl (by decide +kernel) ⟨Nat.le_of_ble_eq_true rfl, Nat.le_of_ble_eq_true rfl⟩ rfl hl.1 (Nat.le_of_ble_eq_true rfl) dL_law_677 ⟨Nat.le_refl _, Nat.le_refl _⟩ rfl ?_
  refine lv_aload_n hx hb dL_law_680 rfl (lv_at hl 2 rfl) ?_
  refine lv_aload_n hx hb dL_law_681 rfl (lv_at hl 0 rfl) ?_
  refine lv_iload_n hx hb dL_law_682 rfl (lv_at hl 3 rfl) ?_
  refine j_c hx hb dL_law_683 ?_
  refine j_add hx hb dL_law_684 ?_
  refine j_sld hx hb hX hbl hbA hW.2.2 (by omega) hL dL_law_685 ?_
  refine lv_aload_n hx hb dL_law_686 rfl (lv_at hl 0 rfl) ?_
  refine lv_iload_n hx hb dL_law_687 rfl (lv_at hl 3 rfl) ?_
  refine j_c hx hb dL_law_688 ?_
  refine j_add hx hb dL_law_689 ?_
  refine j_sld hx hb hX hbl hbA hW.2.2 (by omega) hL dL_law_690 ?_
  refine p_callV (ci := 6) (n := 2) (As := [.int (iI (xs (iv + 1).toNat).toInt), .int (iI (xs (iv + 2).toNat).toInt)]) (rest := [.int (iI v)]) ⟨hx, hb, hml, hown, hts⟩ hK c6 (va_P.mid (pre := wL) (post := []) (by rw [List.append_nil]; exact hW.1)) rfl hh6 gL_law_X6_lotFor rfl (by decide +kernel) ⟨Nat.le_of_ble_eq_true rfl, Nat.le_of_ble_eq_true rfl⟩ rfl hl.1 (Nat.le_of_ble_eq_true rfl) dL_law_691 ⟨Nat.le_refl _, Nat.le_refl _⟩ rfl ?_
  exact lv_icmp_eq (tgt := 699) hx hb dL_law_694 (by decide) (fun _ => kk wL wM H locs hS hW) (fun q => absurd rfl q)
