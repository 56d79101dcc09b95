/-! long numbers, for one row of the reference -/
def lI (n : Int) : Int64 := Int64.ofInt n
abbrev rl (a : Int) : Prop := -9223372036854775808 ≤ a ∧ a < 9223372036854775808
theorem lI_toInt {a : Int} (h : rl a) : (lI a).toInt = a := Int64.toInt_ofInt_of_le h.1 h.2
theorem lI_eq {a b : Int} (ha : rl a) (hb : rl b) : lI a = lI b ↔ a = b := by rw [← Int64.toInt_inj, lI_toInt ha, lI_toInt hb]
theorem lI_div {a b : Int} (ha : 0 ≤ a ∧ a < 9223372036854775808) (hb : 0 < b ∧ b < 9223372036854775808) : lI a / lI b = lI (a / b) := by
  apply Int64.toInt_inj.mp
  have hd : a / b ≤ a := Int.ediv_le_self b ha.1
  have hd0 : 0 ≤ a / b := Int.ediv_nonneg ha.1 (by omega)
  rw [Int64.toInt_div_of_ne_right, lI_toInt ⟨by omega, by omega⟩, lI_toInt ⟨by omega, by omega⟩, lI_toInt ⟨by omega, by omega⟩, Int.tdiv_eq_ediv_of_nonneg ha.1]
  intro h
  have h2 : (lI b).toInt = (-1 : Int64).toInt := by rw [h]
  rw [lI_toInt ⟨by omega, by omega⟩] at h2
  have h3 : (-1 : Int64).toInt = -1 := by decide
  omega
theorem lI_rem {a b : Int} (ha : 0 ≤ a ∧ a < 9223372036854775808) (hb : 0 < b ∧ b < 9223372036854775808) : lI a - lI a / lI b * lI b = lI (a % b) := by
  rw [lI_div ha hb, show lI (a / b) * lI b = lI (a / b * b) from (Int64.ofInt_mul _ _).symm, show lI a - lI (a / b * b) = lI (a - a / b * b) from (Int64.ofInt_sub _ _).symm, Int.emod_def, Int.mul_comm]
section BL
variable {p : Program} {l : Launch} {e : Env} {R : Room} {s : State} {m : MethodId} {args : Array Value} {below : List Frame} {meth : Method} {c : Code} {H : Heap} {locs : List Loc} {cells slots : Nat} {Q : State → Prop}
variable {cc : ByteArray} {pc : Nat} {ls : Array Slot} {rest : List Value}
theorem j_i2l (hx : p.tables.exec = Jvm.exec) (hb : c.code = cc) {a : Int} (ha : rg a) (hdg : decode cc pc = .ok (.i2l, 1)) (k : W p l e R s m args below meth c H locs cells slots Q (F0 m (pc + 1) ls (.long (lI a) :: rest))) : W p l e R s m args below meth c H locs cells slots Q (F0 m pc ls (.int (iI a) :: rest)) := lv_i2l hx hb hdg (by
  apply Int64.toInt_inj.mp
  rw [Int32.toInt_toInt64, iI_toInt ha, lI_toInt ⟨by omega, by omega⟩]) k
theorem j_l2i (hx : p.tables.exec = Jvm.exec) (hb : c.code = cc) {a : Int} (hdg : decode cc pc = .ok (.l2i, 1)) (k : W p l e R s m args below meth c H locs cells slots Q (F0 m (pc + 1) ls (.int (iI a) :: rest))) : W p l e R s m args below meth c H locs cells slots Q (F0 m pc ls (.long (lI a) :: rest)) := lv_l2i hx hb hdg (Int64.toInt32_ofInt) k
theorem j_ldc2 (hx : p.tables.exec = Jvm.exec) (hb : c.code = cc) {own : String} {index : Nat} {v : Int64} {n : Int} (hown : s.vm.findClass own = some m.cls) (hconst : (Jvm.Cond.constantLong own index v).before args s = true) (hv : v = lI n) (hdg : decode cc pc = .ok (.ldc2_w index, 3)) (k : W p l e R s m args below meth c H locs cells slots Q (F0 m (pc + 3) ls (.long (lI n) :: rest))) : W p l e R s m args below meth c H locs cells slots Q (F0 m pc ls rest) := lv_ldc2 hx hb hown hconst hdg (hv ▸ k)
theorem j_ladd (hx : p.tables.exec = Jvm.exec) (hb : c.code = cc) {a b : Int} (hdg : decode cc pc = .ok (.ladd, 1)) (k : W p l e R s m args below meth c H locs cells slots Q (F0 m (pc + 1) ls (.long (lI (a + b)) :: rest))) : W p l e R s m args below meth c H locs cells slots Q (F0 m pc ls (.long (lI b) :: .long (lI a) :: rest)) := lv_ladd hx hb hdg (by rw [show lI a + lI b = lI (a + b) from (Int64.ofInt_add _ _).symm]; exact k)
theorem j_lmul (hx : p.tables.exec = Jvm.exec) (hb : c.code = cc) {a b : Int} (hdg : decode cc pc = .ok (.lmul, 1)) (k : W p l e R s m args below meth c H locs cells slots Q (F0 m (pc + 1) ls (.long (lI (a * b)) :: rest))) : W p l e R s m args below meth c H locs cells slots Q (F0 m pc ls (.long (lI b) :: .long (lI a) :: rest)) := lv_lmul hx hb hdg (by rw [show lI a * lI b = lI (a * b) from (Int64.ofInt_mul _ _).symm]; exact k)
theorem j_lrem (hx : p.tables.exec = Jvm.exec) (hb : c.code = cc) {a b : Int} (ha : 0 ≤ a ∧ a < 9223372036854775808) (hbb : 0 < b ∧ b < 9223372036854775808) (hdg : decode cc pc = .ok (.lrem, 1)) (k : W p l e R s m args below meth c H locs cells slots Q (F0 m (pc + 1) ls (.long (lI (a % b)) :: rest))) : W p l e R s m args below meth c H locs cells slots Q (F0 m pc ls (.long (lI b) :: .long (lI a) :: rest)) := lv_lrem hx hb hdg (fun h => by rw [show (0 : Int64) = lI 0 from rfl, lI_eq ⟨by omega, by omega⟩ (by decide)] at h; omega) (by rw [lI_rem ha hbb]; exact k)
end BL
theorem pickL_t {f : Nat → Int} {p : Int} {n : Nat} (h : f n = 1 ∧ sm f n = p) : pickL f p (n + 1) = n := by simp only [pickL]; rw [if_pos h]
theorem pickL_f {f : Nat → Int} {p : Int} {n : Nat} (h : ¬ (f n = 1 ∧ sm f n = p)) : pickL f p (n + 1) = pickL f p n := by simp only [pickL]; rw [if_neg h]
theorem sm_t {f : Nat → Int} {n : Nat} (h : f n = 1) : sm f (n + 1) = sm f n + 1 := by simp only [sm]; rw [h]
theorem sm_f {f : Nat → Int} {n : Nat} (h : f n = 0) : sm f (n + 1) = sm f n + 0 := by simp only [sm]; rw [h]
def MT (t : Nat → Int) (ty : Int) : Prop := (∀ k, bd (t k)) ∧ 0 ≤ ty ∧ ty ≤ 60
set_option maxHeartbeats 4000000 in
set_option maxRecDepth 100000 in
theorem kX6_drawn (l : Launch) (D : va_G) (cI cV : ClassId)  (x : Int) (h_x : 0 ≤ x ∧ x < 65536) : PM l yX6_drawn wsX6_drawn 0 0 [.int (iI (x))] (([] : va_W)) D cI cV (some (.int (iI (((x) * 25173 + 13849) % 65536)))) := by
  refine PM.of (cc := cX6_drawn) (maxL := 1) (ret := (some .int)) (by decide) rfl (Nat.le_of_ble_eq_true rfl) ?_
  intro p e s0 m below meth c ls hx hb hr hts hown hlocks hml hP hK hl
  have hown : s0.vm.findClass RX6 = some m.cls := hown
  have hl : lv_has ls 1 [(0, .int (iI (x)))] := hl
  refine lv_iload_n hx hb dX6_drawn_0 rfl (lv_at hl 0 rfl) ?_
  refine j_i2l hx hb (by omega) dX6_drawn_1 ?_
  refine j_ldc2 (n := 25173) hx hb hown (hts (.constantLong RX6 66 25173) (by decide +kernel)) rfl dX6_drawn_2 ?_
  refine j_lmul hx hb dX6_drawn_5 ?_
  refine j_ldc2 (n := 13849) hx hb hown (hts (.constantLong RX6 68 13849) (by decide +kernel)) rfl dX6_drawn_6 ?_
  refine j_ladd hx hb dX6_drawn_9 ?_
  refine j_ldc2 (n := 65536) hx hb hown (hts (.constantLong RX6 70 65536) (by decide +kernel)) rfl dX6_drawn_10 ?_
  refine j_lrem hx hb (by omega) (by omega) dX6_drawn_13 ?_
  refine j_l2i hx hb dX6_drawn_14 ?_
  exact p_iret hx hb hr hlocks (by first | rfl | omega | exact (b2i_t (by omega)).symm | exact (b2i_f (by omega)).symm | (simp only [b2i]; (repeat' split) <;> first | rfl | omega | (exfalso; omega))) dX6_drawn_15
set_option maxHeartbeats 4000000 in
set_option maxRecDepth 100000 in
theorem kX6_candidate (l : Launch) (D : va_G) (cI cV : ClassId) (b : Nat → Nat) (s pa he : Nat → Int) (np ru : Int) (t : Nat → Int) (ty at_ rd : Int) (x : Int) (hM : MS s) (r_x : rg x) : PM l yX6_candidate wsX6_candidate 1 24 [.ref (b 0), .int (iI (x))] (modw cI b s pa he np ru t ty at_ rd) D cI cV (some (.int (iI (pickL (fun i => b2i (seatL (fun i => s (32 + i)) (i : Int) (s 1).toNat = -9)) x (s 0).toNat)))) := by
  refine PM.of (cc := cX6_candidate) (maxL := 6) (ret := (some .int)) (by decide) rfl (Nat.le_of_ble_eq_true rfl) ?_
  intro p e s0 m below meth c ls hx hb hr hts hown hlocks hml hP hK hl
  have hown : s0.vm.findClass RX6 = some m.cls := hown
  have hin : ∀ w ∈ u_ws RX6 TX6 9, w ∈ wsX6_candidate := by decide +kernel
  have hl : lv_has ls 6 [(0, .ref (b 0)), (1, .int (iI (x)))] := hl
  obtain ⟨hbs, h00, h01, h10, h11, h30, h31, h40, h41, h70, h71, h60, h61, hco, hcn⟩ := id hM
  have hb5 := hbs 5
  have hb2 := hbs 2
  refine j_c hx hb dX6_candidate_0 ?_
  refine lv_istore_n (lv' := [(2, .int (iI (0))), (0, .ref (b 0)), (1, .int (iI (x)))]) hx hb dX6_candidate_1 rfl hl (by decide) rfl (fun ls hl => ?_)
  refine j_bi hx hb dX6_candidate_2 rfl ?_
  refine lv_istore_n (lv' := [(3, .int (iI ((-9)))), (2, .int (iI (0))), (0, .ref (b 0)), (1, .int (iI (x)))]) hx hb dX6_candidate_4 rfl hl (by decide) rfl (fun ls hl => ?_)
  refine j_c hx hb dX6_candidate_5 ?_
  refine lv_istore (lv' := [(4, .int (iI (0))), (3, .int (iI ((-9)))), (2, .int (iI (0))), (0, .ref (b 0)), (1, .int (iI (x)))]) hx hb dX6_candidate_6 hl (by decide) rfl (fun ls hl => ?_)
  have LP8 : ∀ (fu : Nat) (j : Nat) (x4 x3 x2 : Int), x4 = (j : Int) → x3 = pickL (fun i => b2i (seatL (fun i => s (32 + i)) (i : Int) (s 1).toNat = -9)) x j → x2 = sm (fun i => b2i (seatL (fun i => s (32 + i)) (i : Int) (s 1).toNat = -9)) j → ((j : Int) ≤ s 0) → (s 0).toNat - j < fu → ∀ ls : Array Slot, lv_has ls 6 [(4, .int (iI (x4))), (3, .int (iI (x3))), (2, .int (iI (x2))), (0, .ref (b 0)), (1, .int (iI (x)))] → W p l e (headSpec wsX6_candidate (rmK 1 24)).room s0 m ([.ref (b 0), .int (iI (x))] : List Value).toArray below meth c s0.heap [] 0 0 (MQ below (pQ (some (.int (iI (pickL (fun i => b2i (seatL (fun i => s (32 + i)) (i : Int) (s 1).toNat = -9)) x (s 0).toNat))))) ([.ref (b 0), .int (iI (x))] : List Value).toArray s0 0 0 (fun _ => False)) (F0 m 8 ls []) := by
    intro fu
    induction fu with
    | zero =>
      intros
      omega
    | succ fu ih =>
      intro j x4 x3 x2 ex4 ex3 ex2 hinv hmeas  ls hl
      subst ex4
      subst ex3
      subst ex2
      have hsm := sm_rg (f := fun i => b2i (seatL (fun i => s (32 + i)) (i : Int) (s 1).toNat = -9)) (fun k => b2i_rg) j
      have hpk := pickL_rg (f := fun i => b2i (seatL (fun i => s (32 + i)) (i : Int) (s 1).toNat = -9)) (p := x) j
      refine lv_iload hx hb dX6_candidate_8 (lv_at hl 0 rfl) ?_
      refine lv_aload_n hx hb dX6_candidate_10 rfl (lv_at hl 3 rfl) ?_
      refine Mg0 hx hb hts hin hown hK hP (by decide +kernel) dX6_candidate_11 ?_
      refine j_c hx hb dX6_candidate_14 ?_
      refine Ma0 hx hb hK hP (by omega) dX6_candidate_15 ?_
      rw [show (0 : Int).toNat = 0 from by omega]
      have r0_36 : bd (s 0) := hbs _
      refine j_ige (tgt := 75) hx hb (by omega) (by omega) dX6_candidate_16 (by decide) (fun c1 => ?_) (fun c1 => ?_)
      · refine lv_iload_n hx hb dX6_candidate_75 rfl (lv_at hl 1 rfl) ?_
        exact p_iret hx hb hr hlocks (by rw [show (s 0).toNat = j from by omega]) dX6_candidate_76
      · refine lv_aload_n hx hb dX6_candidate_19 rfl (lv_at hl 3 rfl) ?_
        refine j_bi hx hb dX6_candidate_20 rfl ?_
        refine lv_iload hx hb dX6_candidate_22 (lv_at hl 0 rfl) ?_
        refine p_callV (v := .int (iI (seatL (fun i => s (32 + i)) (j : Int) (s 1).toNat))) (ci := 6) (n := 2) (As := [.int (iI (32)), .int (iI ((j : Int)))]) (rest := []) ⟨hx, hb, hml, hown, hts⟩ hK (kX6_seatOf l D cI cV b s pa he np ru t ty at_ rd 32 (j : Int) hM (by omega) (by omega)) hP rfl rfl gX6_candidate_X6_seatOf rfl (by decide +kernel) ⟨Nat.le_of_ble_eq_true rfl, Nat.le_of_ble_eq_true rfl⟩ rfl hl.1 (Nat.le_of_ble_eq_true rfl) dX6_candidate_24 ⟨Nat.zero_le _, Nat.zero_le _⟩ rfl ?_
        have fq := seatL_rg (el := (fun i => s (32 + i))) (v := (j : Int)) (s 1).toNat
        refine j_bi hx hb dX6_candidate_27 rfl ?_
        refine j_ine (tgt := 36) hx hb (by omega) (by omega) dX6_candidate_29 (by decide) (fun c2 => ?_) (fun c2 => ?_)
        · refine j_c hx hb dX6_candidate_36 ?_
          refine lv_istore (lv' := [(5, .int (iI (0))), (4, .int (iI ((j : Int)))), (3, .int (iI (pickL (fun i => b2i (seatL (fun i => s (32 + i)) (i : Int) (s 1).toNat = -9)) x j))), (2, .int (iI (sm (fun i => b2i (seatL (fun i => s (32 + i)) (i : Int) (s 1).toNat = -9)) j))), (0, .ref (b 0)), (1, .int (iI (x)))]) hx hb dX6_candidate_37 hl (by decide) rfl (fun ls hl => ?_)
          refine lv_iload hx hb dX6_candidate_39 (lv_at hl 0 rfl) ?_
          refine j_zeq (tgt := 54) hx hb (by decide) dX6_candidate_41 (by decide) (fun _ => ?_) (fun h => absurd h (by decide))
          refine lv_iload_n hx hb dX6_candidate_54 rfl (lv_at hl 2 rfl) ?_
          refine lv_istore_n (lv' := [(3, .int (iI (pickL (fun i => b2i (seatL (fun i => s (32 + i)) (i : Int) (s 1).toNat = -9)) x j))), (5, .int (iI (0))), (4, .int (iI ((j : Int)))), (2, .int (iI (sm (fun i => b2i (seatL (fun i => s (32 + i)) (i : Int) (s 1).toNat = -9)) j))), (0, .ref (b 0)), (1, .int (iI (x)))]) hx hb dX6_candidate_55 rfl hl (by decide) rfl (fun ls hl => ?_)
          refine lv_iload_n hx hb dX6_candidate_56 rfl (lv_at hl 3 rfl) ?_
          refine lv_iload hx hb dX6_candidate_57 (lv_at hl 1 rfl) ?_
          refine j_zeq (tgt := 66) hx hb (by decide) dX6_candidate_59 (by decide) (fun _ => ?_) (fun h => absurd h (by decide))
          refine j_c hx hb dX6_candidate_66 ?_
          refine j_add hx hb dX6_candidate_67 ?_
          refine lv_istore_n (lv' := [(2, .int (iI ((sm (fun i => b2i (seatL (fun i => s (32 + i)) (i : Int) (s 1).toNat = -9)) j) + 0))), (3, .int (iI (pickL (fun i => b2i (seatL (fun i => s (32 + i)) (i : Int) (s 1).toNat = -9)) x j))), (5, .int (iI (0))), (4, .int (iI ((j : Int)))), (0, .ref (b 0)), (1, .int (iI (x)))]) hx hb dX6_candidate_68 rfl hl (by decide) rfl (fun ls hl => ?_)
          refine lv_iinc (v := iI ((j : Int) + 1)) (lv' := [(4, .int (iI ((j : Int) + 1))), (2, .int (iI ((sm (fun i => b2i (seatL (fun i => s (32 + i)) (i : Int) (s 1).toNat = -9)) j) + 0))), (3, .int (iI (pickL (fun i => b2i (seatL (fun i => s (32 + i)) (i : Int) (s 1).toNat = -9)) x j))), (5, .int (iI (0))), (0, .ref (b 0)), (1, .int (iI (x)))]) hx hb dX6_candidate_69 hl (k := 3) rfl (iI_add _ _) (by decide) rfl (fun ls hl => ?_)
          refine lv_goto (tgt := 8) hx hb dX6_candidate_72 (by decide) ?_
          exact ih (j + 1) ((j : Int) + 1) (pickL (fun i => b2i (seatL (fun i => s (32 + i)) (i : Int) (s 1).toNat = -9)) x j) ((sm (fun i => b2i (seatL (fun i => s (32 + i)) (i : Int) (s 1).toNat = -9)) j) + 0) (by first | rfl | omega | exact (pickL_t ⟨b2i_t (by omega), by omega⟩).symm | exact (pickL_f (fun hh => by have h1 := hh.1; have h2 := hh.2; simp only [b2i] at h1; split at h1 <;> omega)).symm | exact (sm_t (b2i_t (by omega))).symm | exact (sm_f (b2i_f (by omega))).symm) (by first | rfl | omega | exact (pickL_t ⟨b2i_t (by omega), by omega⟩).symm | exact (pickL_f (fun hh => by have h1 := hh.1; have h2 := hh.2; simp only [b2i] at h1; split at h1 <;> omega)).symm | exact (sm_t (b2i_t (by omega))).symm | exact (sm_f (b2i_f (by omega))).symm) (by first | rfl | omega | exact (pickL_t ⟨b2i_t (by omega), by omega⟩).symm | exact (pickL_f (fun hh => by have h1 := hh.1; have h2 := hh.2; simp only [b2i] at h1; split at h1 <;> omega)).symm | exact (sm_t (b2i_t (by omega))).symm | exact (sm_f (b2i_f (by omega))).symm) (by omega) (by omega) ls (lv_sub hl [0, 2, 1, 4, 5] rfl)
        · refine j_c hx hb dX6_candidate_32 ?_
          refine lv_goto (tgt := 37) hx hb dX6_candidate_33 (by decide) ?_
          refine lv_istore (lv' := [(5, .int (iI (1))), (4, .int (iI ((j : Int)))), (3, .int (iI (pickL (fun i => b2i (seatL (fun i => s (32 + i)) (i : Int) (s 1).toNat = -9)) x j))), (2, .int (iI (sm (fun i => b2i (seatL (fun i => s (32 + i)) (i : Int) (s 1).toNat = -9)) j))), (0, .ref (b 0)), (1, .int (iI (x)))]) hx hb dX6_candidate_37 hl (by decide) rfl (fun ls hl => ?_)
          refine lv_iload hx hb dX6_candidate_39 (lv_at hl 0 rfl) ?_
          refine j_zeq (tgt := 54) hx hb (by decide) dX6_candidate_41 (by decide) (fun h => absurd h (by decide)) (fun _ => ?_)
          refine lv_iload_n hx hb dX6_candidate_44 rfl (lv_at hl 3 rfl) ?_
          refine lv_iload_n hx hb dX6_candidate_45 rfl (lv_at hl 5 rfl) ?_
          refine j_ine (tgt := 54) hx hb (by omega) (by omega) dX6_candidate_46 (by decide) (fun c6 => ?_) (fun c6 => ?_)
          · refine lv_iload_n hx hb dX6_candidate_54 rfl (lv_at hl 2 rfl) ?_
            refine lv_istore_n (lv' := [(3, .int (iI (pickL (fun i => b2i (seatL (fun i => s (32 + i)) (i : Int) (s 1).toNat = -9)) x j))), (5, .int (iI (1))), (4, .int (iI ((j : Int)))), (2, .int (iI (sm (fun i => b2i (seatL (fun i => s (32 + i)) (i : Int) (s 1).toNat = -9)) j))), (0, .ref (b 0)), (1, .int (iI (x)))]) hx hb dX6_candidate_55 rfl hl (by decide) rfl (fun ls hl => ?_)
            refine lv_iload_n hx hb dX6_candidate_56 rfl (lv_at hl 3 rfl) ?_
            refine lv_iload hx hb dX6_candidate_57 (lv_at hl 1 rfl) ?_
            refine j_zeq (tgt := 66) hx hb (by decide) dX6_candidate_59 (by decide) (fun h => absurd h (by decide)) (fun _ => ?_)
            refine j_c hx hb dX6_candidate_62 ?_
            refine lv_goto (tgt := 67) hx hb dX6_candidate_63 (by decide) ?_
            refine j_add hx hb dX6_candidate_67 ?_
            refine lv_istore_n (lv' := [(2, .int (iI ((sm (fun i => b2i (seatL (fun i => s (32 + i)) (i : Int) (s 1).toNat = -9)) j) + 1))), (3, .int (iI (pickL (fun i => b2i (seatL (fun i => s (32 + i)) (i : Int) (s 1).toNat = -9)) x j))), (5, .int (iI (1))), (4, .int (iI ((j : Int)))), (0, .ref (b 0)), (1, .int (iI (x)))]) hx hb dX6_candidate_68 rfl hl (by decide) rfl (fun ls hl => ?_)
            refine lv_iinc (v := iI ((j : Int) + 1)) (lv' := [(4, .int (iI ((j : Int) + 1))), (2, .int (iI ((sm (fun i => b2i (seatL (fun i => s (32 + i)) (i : Int) (s 1).toNat = -9)) j) + 1))), (3, .int (iI (pickL (fun i => b2i (seatL (fun i => s (32 + i)) (i : Int) (s 1).toNat = -9)) x j))), (5, .int (iI (1))), (0, .ref (b 0)), (1, .int (iI (x)))]) hx hb dX6_candidate_69 hl (k := 3) rfl (iI_add _ _) (by decide) rfl (fun ls hl => ?_)
            refine lv_goto (tgt := 8) hx hb dX6_candidate_72 (by decide) ?_
            exact ih (j + 1) ((j : Int) + 1) (pickL (fun i => b2i (seatL (fun i => s (32 + i)) (i : Int) (s 1).toNat = -9)) x j) ((sm (fun i => b2i (seatL (fun i => s (32 + i)) (i : Int) (s 1).toNat = -9)) j) + 1) (by first | rfl | omega | exact (pickL_t ⟨b2i_t (by omega), by omega⟩).symm | exact (pickL_f (fun hh => by have h1 := hh.1; have h2 := hh.2; simp only [b2i] at h1; split at h1 <;> omega)).symm | exact (sm_t (b2i_t (by omega))).symm | exact (sm_f (b2i_f (by omega))).symm) (by first | rfl | omega | exact (pickL_t ⟨b2i_t (by omega), by omega⟩).symm | exact (pickL_f (fun hh => by have h1 := hh.1; have h2 := hh.2; simp only [b2i] at h1; split at h1 <;> omega)).symm | exact (sm_t (b2i_t (by omega))).symm | exact (sm_f (b2i_f (by omega))).symm) (by first | rfl | omega | exact (pickL_t ⟨b2i_t (by omega), by omega⟩).symm | exact (pickL_f (fun hh => by have h1 := hh.1; have h2 := hh.2; simp only [b2i] at h1; split at h1 <;> omega)).symm | exact (sm_t (b2i_t (by omega))).symm | exact (sm_f (b2i_f (by omega))).symm) (by omega) (by omega) ls (lv_sub hl [0, 2, 1, 4, 5] rfl)
          · refine lv_iload hx hb dX6_candidate_49 (lv_at hl 1 rfl) ?_
            refine lv_goto (tgt := 55) hx hb dX6_candidate_51 (by decide) ?_
            refine lv_istore_n (lv' := [(3, .int (iI ((j : Int)))), (5, .int (iI (1))), (4, .int (iI ((j : Int)))), (2, .int (iI (sm (fun i => b2i (seatL (fun i => s (32 + i)) (i : Int) (s 1).toNat = -9)) j))), (0, .ref (b 0)), (1, .int (iI (x)))]) hx hb dX6_candidate_55 rfl hl (by decide) rfl (fun ls hl => ?_)
            refine lv_iload_n hx hb dX6_candidate_56 rfl (lv_at hl 3 rfl) ?_
            refine lv_iload hx hb dX6_candidate_57 (lv_at hl 1 rfl) ?_
            refine j_zeq (tgt := 66) hx hb (by decide) dX6_candidate_59 (by decide) (fun h => absurd h (by decide)) (fun _ => ?_)
            refine j_c hx hb dX6_candidate_62 ?_
            refine lv_goto (tgt := 67) hx hb dX6_candidate_63 (by decide) ?_
            refine j_add hx hb dX6_candidate_67 ?_
            refine lv_istore_n (lv' := [(2, .int (iI ((sm (fun i => b2i (seatL (fun i => s (32 + i)) (i : Int) (s 1).toNat = -9)) j) + 1))), (3, .int (iI ((j : Int)))), (5, .int (iI (1))), (4, .int (iI ((j : Int)))), (0, .ref (b 0)), (1, .int (iI (x)))]) hx hb dX6_candidate_68 rfl hl (by decide) rfl (fun ls hl => ?_)
            refine lv_iinc (v := iI ((j : Int) + 1)) (lv' := [(4, .int (iI ((j : Int) + 1))), (2, .int (iI ((sm (fun i => b2i (seatL (fun i => s (32 + i)) (i : Int) (s 1).toNat = -9)) j) + 1))), (3, .int (iI ((j : Int)))), (5, .int (iI (1))), (0, .ref (b 0)), (1, .int (iI (x)))]) hx hb dX6_candidate_69 hl (k := 3) rfl (iI_add _ _) (by decide) rfl (fun ls hl => ?_)
            refine lv_goto (tgt := 8) hx hb dX6_candidate_72 (by decide) ?_
            exact ih (j + 1) ((j : Int) + 1) (j : Int) ((sm (fun i => b2i (seatL (fun i => s (32 + i)) (i : Int) (s 1).toNat = -9)) j) + 1) (by first | rfl | omega | exact (pickL_t ⟨b2i_t (by omega), by omega⟩).symm | exact (pickL_f (fun hh => by have h1 := hh.1; have h2 := hh.2; simp only [b2i] at h1; split at h1 <;> omega)).symm | exact (sm_t (b2i_t (by omega))).symm | exact (sm_f (b2i_f (by omega))).symm) (by first | rfl | omega | exact (pickL_t ⟨b2i_t (by omega), by omega⟩).symm | exact (pickL_f (fun hh => by have h1 := hh.1; have h2 := hh.2; simp only [b2i] at h1; split at h1 <;> omega)).symm | exact (sm_t (b2i_t (by omega))).symm | exact (sm_f (b2i_f (by omega))).symm) (by first | rfl | omega | exact (pickL_t ⟨b2i_t (by omega), by omega⟩).symm | exact (pickL_f (fun hh => by have h1 := hh.1; have h2 := hh.2; simp only [b2i] at h1; split at h1 <;> omega)).symm | exact (sm_t (b2i_t (by omega))).symm | exact (sm_f (b2i_f (by omega))).symm) (by omega) (by omega) ls (lv_sub hl [0, 2, 1, 4, 5] rfl)
  exact LP8 (_) 0 0 (-9) 0 (by first | rfl | omega) (by first | rfl | omega) (by first | rfl | omega) (by omega) (by exact Nat.lt_succ_self _) ls (lv_sub hl [0, 1, 2, 3, 4] rfl)
set_option maxHeartbeats 4000000 in
set_option maxRecDepth 100000 in
theorem kX6_canWrite (l : Launch) (D : va_G) (cI cV : ClassId) (b : Nat → Nat) (s pa he : Nat → Int) (np ru : Int) (t : Nat → Int) (ty at_ rd : Int) (x : Int) (hM : MS s) (h_x : 0 ≤ x ∧ x < 12) : PM l yX6_canWrite wsX6_canWrite 3 61 [.ref (b 0), .int (iI (x))] (modw cI b s pa he np ru t ty at_ rd) D cI cV (some (.int (iI (b2i ((seatL (fun i => s (32 + i)) (x) (s 1).toNat ≠ -9 ∨ seatL (fun i => s ((if s 5 ≠ -9 then (37 : Int) else 32).toNat + i)) (x) (s 1).toNat ≠ -9) ∧ s (8 + x.toNat) = 1 ∧ s (20 + x.toNat) = s 3))))) := by
  refine PM.of (cc := cX6_canWrite) (maxL := 2) (ret := (some .boolean)) (by decide) rfl (Nat.le_of_ble_eq_true rfl) ?_
  intro p e s0 m below meth c ls hx hb hr hts hown hlocks hml hP hK hl
  have hown : s0.vm.findClass RX6 = some m.cls := hown
  have hin : ∀ w ∈ u_ws RX6 TX6 9, w ∈ wsX6_canWrite := by decide +kernel
  have hl : lv_has ls 2 [(0, .ref (b 0)), (1, .int (iI (x)))] := hl
  obtain ⟨hbs, h00, h01, h10, h11, h30, h31, h40, h41, h70, h71, h60, h61, hco, hcn⟩ := id hM
  have hb5 := hbs 5
  have hb2 := hbs 2
  refine lv_aload_n hx hb dX6_canWrite_0 rfl (lv_at hl 0 rfl) ?_
  refine lv_iload_n hx hb dX6_canWrite_1 rfl (lv_at hl 1 rfl) ?_
  refine p_callV (v := .int (iI (b2i (seatL (fun i => s (32 + i)) (x) (s 1).toNat ≠ -9 ∨ seatL (fun i => s ((if s 5 ≠ -9 then (37 : Int) else 32).toNat + i)) (x) (s 1).toNat ≠ -9)))) (ci := 6) (n := 1) (As := [.int (iI (x))]) (rest := []) ⟨hx, hb, hml, hown, hts⟩ hK (kX6_isElder l D cI cV b s pa he np ru t ty at_ rd x hM (by omega)) hP rfl rfl gX6_canWrite_X6_isElder rfl (by decide +kernel) ⟨Nat.le_of_ble_eq_true rfl, Nat.le_of_ble_eq_true rfl⟩ rfl hl.1 (Nat.le_of_ble_eq_true rfl) dX6_canWrite_2 ⟨Nat.zero_le _, Nat.zero_le _⟩ rfl ?_
  refine j_beq (tgt := 38) hx hb dX6_canWrite_5 (by decide) (fun c1 => ?_) (fun c1 => ?_)
  · refine j_c hx hb dX6_canWrite_38 ?_
    exact p_zret hx hb hr hlocks (by first | decide | exact b2i_or) (by first | rfl | omega | exact (b2i_t (by omega)).symm | exact (b2i_f (by omega)).symm | (simp only [b2i]; (repeat' split) <;> first | rfl | omega | (exfalso; omega))) dX6_canWrite_39
  · refine lv_aload_n hx hb dX6_canWrite_8 rfl (lv_at hl 0 rfl) ?_
    refine lv_iload_n hx hb dX6_canWrite_9 rfl (lv_at hl 1 rfl) ?_
    refine p_callV (v := .int (iI (b2i (s (8 + x.toNat) = 1)))) (ci := 6) (n := 1) (As := [.int (iI (x))]) (rest := []) ⟨hx, hb, hml, hown, hts⟩ hK (kX6_isPresent l D cI cV b s pa he np ru t ty at_ rd x hM (by omega)) hP rfl rfl gX6_canWrite_X6_isPresent rfl (by decide +kernel) ⟨Nat.le_of_ble_eq_true rfl, Nat.le_of_ble_eq_true rfl⟩ rfl hl.1 (Nat.le_of_ble_eq_true rfl) dX6_canWrite_10 ⟨Nat.zero_le _, Nat.zero_le _⟩ rfl ?_
    refine j_beq (tgt := 38) hx hb dX6_canWrite_13 (by decide) (fun c2 => ?_) (fun c2 => ?_)
    · refine j_c hx hb dX6_canWrite_38 ?_
      exact p_zret hx hb hr hlocks (by first | decide | exact b2i_or) (by first | rfl | omega | exact (b2i_t (by omega)).symm | exact (b2i_f (by omega)).symm | (simp only [b2i]; (repeat' split) <;> first | rfl | omega | (exfalso; omega))) dX6_canWrite_39
    · refine lv_aload_n hx hb dX6_canWrite_16 rfl (lv_at hl 0 rfl) ?_
      refine Mg0 hx hb hts hin hown hK hP (by decide +kernel) dX6_canWrite_17 ?_
      refine j_bi hx hb dX6_canWrite_20 rfl ?_
      refine lv_iload_n hx hb dX6_canWrite_22 rfl (lv_at hl 1 rfl) ?_
      refine j_add hx hb dX6_canWrite_23 ?_
      refine Ma0 hx hb hK hP (by omega) dX6_canWrite_24 ?_
      rw [show (20 + x : Int).toNat = 20 + x.toNat from by omega]
      have r2_30 : bd (s (20 + x.toNat)) := hbs _
      refine lv_aload_n hx hb dX6_canWrite_25 rfl (lv_at hl 0 rfl) ?_
      refine Mg0 hx hb hts hin hown hK hP (by decide +kernel) dX6_canWrite_26 ?_
      refine j_c hx hb dX6_canWrite_29 ?_
      refine Ma0 hx hb hK hP (by omega) dX6_canWrite_30 ?_
      rw [show (3 : Int).toNat = 3 from by omega]
      have r2_36 : bd (s 3) := hbs _
      refine j_ine (tgt := 38) hx hb (by omega) (by omega) dX6_canWrite_31 (by decide) (fun c3 => ?_) (fun c3 => ?_)
      · refine j_c hx hb dX6_canWrite_38 ?_
        exact p_zret hx hb hr hlocks (by first | decide | exact b2i_or) (by first | rfl | omega | exact (b2i_t (by omega)).symm | exact (b2i_f (by omega)).symm | (simp only [b2i]; (repeat' split) <;> first | rfl | omega | (exfalso; omega))) dX6_canWrite_39
      · refine j_c hx hb dX6_canWrite_34 ?_
        refine lv_goto (tgt := 39) hx hb dX6_canWrite_35 (by decide) ?_
        exact p_zret hx hb hr hlocks (by first | decide | exact b2i_or) (by first | rfl | omega | exact (b2i_t (by omega)).symm | exact (b2i_f (by omega)).symm | (simp only [b2i]; (repeat' split) <;> first | rfl | omega | (exfalso; omega))) dX6_canWrite_39
set_option maxHeartbeats 4000000 in
set_option maxRecDepth 100000 in
theorem kX6_isAt (l : Launch) (D : va_G) (cI cV : ClassId) (b : Nat → Nat) (s pa he : Nat → Int) (np ru : Int) (t : Nat → Int) (ty at_ rd : Int) (x : Int) (y : Int) (r_x : rg x) (r_y : rg y) (hT : MT t ty) (h_at : 0 ≤ at_ ∧ at_ ≤ 60) : PM l yX6_isAt wsX6_isAt 1 22 [.ref (b 0), .int (iI (x)), .int (iI (y))] (modw cI b s pa he np ru t ty at_ rd) D cI cV (some (.int (iI (b2i (at_ < ty ∧ (x ≤ t at_.toNat ∧ t at_.toNat ≤ y)))))) := by
  refine PM.of (cc := cX6_isAt) (maxL := 3) (ret := (some .boolean)) (by decide) rfl (Nat.le_of_ble_eq_true rfl) ?_
  intro p e s0 m below meth c ls hx hb hr hts hown hlocks hml hP hK hl
  have hown : s0.vm.findClass RX6 = some m.cls := hown
  have hin : ∀ w ∈ u_ws RX6 TX6 9, w ∈ wsX6_isAt := by decide +kernel
  have hl : lv_has ls 3 [(0, .ref (b 0)), (1, .int (iI (x))), (2, .int (iI (y)))] := hl
  obtain ⟨hbt, ht0, ht1⟩ := id hT
  refine lv_aload_n hx hb dX6_isAt_0 rfl (lv_at hl 0 rfl) ?_
  refine Mg7 hx hb hts hin hown hK hP (by decide +kernel) dX6_isAt_1 ?_
  refine lv_aload_n hx hb dX6_isAt_4 rfl (lv_at hl 0 rfl) ?_
  refine Mg6 hx hb hts hin hown hK hP (by decide +kernel) dX6_isAt_5 ?_
  refine j_ige (tgt := 32) hx hb (by omega) (by omega) dX6_isAt_8 (by decide) (fun c1 => ?_) (fun c1 => ?_)
  · refine j_c hx hb dX6_isAt_32 ?_
    exact p_zret hx hb hr hlocks (by first | decide | exact b2i_or) (by first | rfl | omega | exact (b2i_t (by omega)).symm | exact (b2i_f (by omega)).symm | (simp only [b2i]; (repeat' split) <;> first | rfl | omega | (exfalso; omega))) dX6_isAt_33
  · refine lv_aload_n hx hb dX6_isAt_11 rfl (lv_at hl 0 rfl) ?_
    refine Mg5 hx hb hts hin hown hK hP (by decide +kernel) dX6_isAt_12 ?_
    refine lv_aload_n hx hb dX6_isAt_15 rfl (lv_at hl 0 rfl) ?_
    refine Mg7 hx hb hts hin hown hK hP (by decide +kernel) dX6_isAt_16 ?_
    refine Ma3 hx hb hK hP (by omega) dX6_isAt_19 ?_
    have r1_21 : bd (t at_.toNat) := hbt _
    refine lv_iload_n hx hb dX6_isAt_20 rfl (lv_at hl 1 rfl) ?_
    refine lv_iload_n hx hb dX6_isAt_21 rfl (lv_at hl 2 rfl) ?_
    refine p_callS (v := .int (iI (b2i (x ≤ (t at_.toNat) ∧ (t at_.toNat) ≤ y)))) (n := 3) (w := []) (As := [.int (iI (t at_.toNat)), .int (iI (x)), .int (iI (y))]) (rest := []) ⟨hx, hb, hml, hown, hts⟩ hK (kX6_in l D cI cV (t at_.toNat) x y (by omega) (by omega) (by omega)) (fun k q h => by simp at h) gX6_isAt_X6_in rfl (by decide +kernel) ⟨Nat.le_of_ble_eq_true rfl, Nat.le_of_ble_eq_true rfl⟩ rfl hl.1 (Nat.le_of_ble_eq_true rfl) dX6_isAt_22 ⟨Nat.zero_le _, Nat.zero_le _⟩ rfl ?_
    refine j_beq (tgt := 32) hx hb dX6_isAt_25 (by decide) (fun c2 => ?_) (fun c2 => ?_)
    · refine j_c hx hb dX6_isAt_32 ?_
      exact p_zret hx hb hr hlocks (by first | decide | exact b2i_or) (by first | rfl | omega | exact (b2i_t (by omega)).symm | exact (b2i_f (by omega)).symm | (simp only [b2i]; (repeat' split) <;> first | rfl | omega | (exfalso; omega))) dX6_isAt_33
    · refine j_c hx hb dX6_isAt_28 ?_
      refine lv_goto (tgt := 33) hx hb dX6_isAt_29 (by decide) ?_
      exact p_zret hx hb hr hlocks (by first | decide | exact b2i_or) (by first | rfl | omega | exact (b2i_t (by omega)).symm | exact (b2i_f (by omega)).symm | (simp only [b2i]; (repeat' split) <;> first | rfl | omega | (exfalso; omega))) dX6_isAt_33
set_option maxHeartbeats 4000000 in
set_option maxRecDepth 100000 in
theorem kX6_isForged (l : Launch) (D : va_G) (cI cV : ClassId) (b : Nat → Nat) (s pa he : Nat → Int) (np ru : Int) (t : Nat → Int) (ty at_ rd : Int) (x : Int) (hM : MS s) (h_x : 0 ≤ x ∧ x < 60) : PM l yX6_isForged wsX6_isForged 0 0 [.ref (b 0), .int (iI (x))] (modw cI b s pa he np ru t ty at_ rd) D cI cV (some (.int (iI (b2i (s (224 + 5 * x.toNat) ≠ s (225 + 5 * x.toNat)))))) := by
  refine PM.of (cc := cX6_isForged) (maxL := 2) (ret := (some .boolean)) (by decide) rfl (Nat.le_of_ble_eq_true rfl) ?_
  intro p e s0 m below meth c ls hx hb hr hts hown hlocks hml hP hK hl
  have hown : s0.vm.findClass RX6 = some m.cls := hown
  have hin : ∀ w ∈ u_ws RX6 TX6 9, w ∈ wsX6_isForged := by decide +kernel
  have hl : lv_has ls 2 [(0, .ref (b 0)), (1, .int (iI (x)))] := hl
  obtain ⟨hbs, h00, h01, h10, h11, h30, h31, h40, h41, h70, h71, h60, h61, hco, hcn⟩ := id hM
  have hb5 := hbs 5
  have hb2 := hbs 2
  refine lv_aload_n hx hb dX6_isForged_0 rfl (lv_at hl 0 rfl) ?_
  refine Mg0 hx hb hts hin hown hK hP (by decide +kernel) dX6_isForged_1 ?_
  refine j_si hx hb dX6_isForged_4 rfl ?_
  refine j_c hx hb dX6_isForged_7 ?_
  refine lv_iload_n hx hb dX6_isForged_8 rfl (lv_at hl 1 rfl) ?_
  refine j_mul hx hb dX6_isForged_9 ?_
  refine j_add hx hb dX6_isForged_10 ?_
  refine j_c hx hb dX6_isForged_11 ?_
  refine j_add hx hb dX6_isForged_12 ?_
  refine Ma0 hx hb hK hP (by omega) dX6_isForged_13 ?_
  rw [show ((222 + (5 * x)) + 2 : Int).toNat = 224 + 5 * x.toNat from by omega]
  have r0_22 : bd (s (224 + 5 * x.toNat)) := hbs _
  refine lv_aload_n hx hb dX6_isForged_14 rfl (lv_at hl 0 rfl) ?_
  refine Mg0 hx hb hts hin hown hK hP (by decide +kernel) dX6_isForged_15 ?_
  refine j_si hx hb dX6_isForged_18 rfl ?_
  refine j_c hx hb dX6_isForged_21 ?_
  refine lv_iload_n hx hb dX6_isForged_22 rfl (lv_at hl 1 rfl) ?_
  refine j_mul hx hb dX6_isForged_23 ?_
  refine j_add hx hb dX6_isForged_24 ?_
  refine j_c hx hb dX6_isForged_25 ?_
  refine j_add hx hb dX6_isForged_26 ?_
  refine Ma0 hx hb hK hP (by omega) dX6_isForged_27 ?_
  rw [show ((222 + (5 * x)) + 3 : Int).toNat = 225 + 5 * x.toNat from by omega]
  have r0_34 : bd (s (225 + 5 * x.toNat)) := hbs _
  refine j_ieq (tgt := 35) hx hb (by omega) (by omega) dX6_isForged_28 (by decide) (fun c1 => ?_) (fun c1 => ?_)
  · refine j_c hx hb dX6_isForged_35 ?_
    exact p_zret hx hb hr hlocks (by first | decide | exact b2i_or) (by first | rfl | omega | exact (b2i_t (by omega)).symm | exact (b2i_f (by omega)).symm | (simp only [b2i]; (repeat' split) <;> first | rfl | omega | (exfalso; omega))) dX6_isForged_36
  · refine j_c hx hb dX6_isForged_31 ?_
    refine lv_goto (tgt := 36) hx hb dX6_isForged_32 (by decide) ?_
    exact p_zret hx hb hr hlocks (by first | decide | exact b2i_or) (by first | rfl | omega | exact (b2i_t (by omega)).symm | exact (b2i_f (by omega)).symm | (simp only [b2i]; (repeat' split) <;> first | rfl | omega | (exfalso; omega))) dX6_isForged_36
set_option maxHeartbeats 4000000 in
set_option maxRecDepth 100000 in
theorem kX6_forged (l : Launch) (D : va_G) (cI cV : ClassId) (b : Nat → Nat) (s pa he : Nat → Int) (np ru : Int) (t : Nat → Int) (ty at_ rd : Int)  (hM : MS s) : PM l yX6_forged wsX6_forged 1 21 [.ref (b 0)] (modw cI b s pa he np ru t ty at_ rd) D cI cV (some (.int (iI (sm (fun i => b2i (s (224 + 5 * i) ≠ s (225 + 5 * i))) (s 7).toNat)))) := by
  refine PM.of (cc := cX6_forged) (maxL := 3) (ret := (some .int)) (by decide) rfl (Nat.le_of_ble_eq_true rfl) ?_
  intro p e s0 m below meth c ls hx hb hr hts hown hlocks hml hP hK hl
  have hown : s0.vm.findClass RX6 = some m.cls := hown
  have hin : ∀ w ∈ u_ws RX6 TX6 9, w ∈ wsX6_forged := by decide +kernel
  have hl : lv_has ls 3 [(0, .ref (b 0))] := hl
  obtain ⟨hbs, h00, h01, h10, h11, h30, h31, h40, h41, h70, h71, h60, h61, hco, hcn⟩ := id hM
  have hb5 := hbs 5
  have hb2 := hbs 2
  refine j_c hx hb dX6_forged_0 ?_
  refine lv_istore_n (lv' := [(1, .int (iI (0))), (0, .ref (b 0))]) hx hb dX6_forged_1 rfl hl (by decide) rfl (fun ls hl => ?_)
  refine j_c hx hb dX6_forged_2 ?_
  refine lv_istore_n (lv' := [(2, .int (iI (0))), (1, .int (iI (0))), (0, .ref (b 0))]) hx hb dX6_forged_3 rfl hl (by decide) rfl (fun ls hl => ?_)
  have LP4 : ∀ (fu : Nat) (j : Nat) (x2 x1 : Int), x2 = (j : Int) → x1 = sm (fun i => b2i (s (224 + 5 * i) ≠ s (225 + 5 * i))) j → ((j : Int) ≤ s 7) → (s 7).toNat - j < fu → ∀ ls : Array Slot, lv_has ls 3 [(2, .int (iI (x2))), (1, .int (iI (x1))), (0, .ref (b 0))] → W p l e (headSpec wsX6_forged (rmK 1 21)).room s0 m ([.ref (b 0)] : List Value).toArray below meth c s0.heap [] 0 0 (MQ below (pQ (some (.int (iI (sm (fun i => b2i (s (224 + 5 * i) ≠ s (225 + 5 * i))) (s 7).toNat))))) ([.ref (b 0)] : List Value).toArray s0 0 0 (fun _ => False)) (F0 m 4 ls []) := by
    intro fu
    induction fu with
    | zero =>
      intros
      omega
    | succ fu ih =>
      intro j x2 x1 ex2 ex1 hinv hmeas  ls hl
      subst ex2
      subst ex1
      have hsm := sm_rg (f := fun i => b2i (s (224 + 5 * i) ≠ s (225 + 5 * i))) (fun k => b2i_rg) j
      refine lv_iload_n hx hb dX6_forged_4 rfl (lv_at hl 0 rfl) ?_
      refine lv_aload_n hx hb dX6_forged_5 rfl (lv_at hl 2 rfl) ?_
      refine Mg0 hx hb hts hin hown hK hP (by decide +kernel) dX6_forged_6 ?_
      refine j_bi hx hb dX6_forged_9 rfl ?_
      refine Ma0 hx hb hK hP (by omega) dX6_forged_11 ?_
      rw [show (7 : Int).toNat = 7 from by omega]
      have r0_32 : bd (s 7) := hbs _
      refine j_ige (tgt := 37) hx hb (by omega) (by omega) dX6_forged_12 (by decide) (fun c1 => ?_) (fun c1 => ?_)
      · refine lv_iload_n hx hb dX6_forged_37 rfl (lv_at hl 1 rfl) ?_
        exact p_iret hx hb hr hlocks (by rw [show (s 7).toNat = j from by omega]) dX6_forged_38
      · refine lv_iload_n hx hb dX6_forged_15 rfl (lv_at hl 1 rfl) ?_
        refine lv_aload_n hx hb dX6_forged_16 rfl (lv_at hl 2 rfl) ?_
        refine lv_iload_n hx hb dX6_forged_17 rfl (lv_at hl 0 rfl) ?_
        refine p_callV (v := .int (iI (b2i (s (224 + 5 * j) ≠ s (225 + 5 * j))))) (ci := 6) (n := 1) (As := [.int (iI ((j : Int)))]) (rest := [.int (iI (sm (fun i => b2i (s (224 + 5 * i) ≠ s (225 + 5 * i))) j))]) ⟨hx, hb, hml, hown, hts⟩ hK (kX6_isForged l D cI cV b s pa he np ru t ty at_ rd (j : Int) hM (by omega)) hP rfl rfl gX6_forged_X6_isForged rfl (by decide +kernel) ⟨Nat.le_of_ble_eq_true rfl, Nat.le_of_ble_eq_true rfl⟩ rfl hl.1 (Nat.le_of_ble_eq_true rfl) dX6_forged_18 ⟨Nat.zero_le _, Nat.zero_le _⟩ rfl ?_
        refine j_beq (tgt := 28) hx hb dX6_forged_21 (by decide) (fun c2 => ?_) (fun c2 => ?_)
        · refine j_c hx hb dX6_forged_28 ?_
          refine j_add hx hb dX6_forged_29 ?_
          refine lv_istore_n (lv' := [(1, .int (iI ((sm (fun i => b2i (s (224 + 5 * i) ≠ s (225 + 5 * i))) j) + 0))), (2, .int (iI ((j : Int)))), (0, .ref (b 0))]) hx hb dX6_forged_30 rfl hl (by decide) rfl (fun ls hl => ?_)
          refine lv_iinc (v := iI ((j : Int) + 1)) (lv' := [(2, .int (iI ((j : Int) + 1))), (1, .int (iI ((sm (fun i => b2i (s (224 + 5 * i) ≠ s (225 + 5 * i))) j) + 0))), (0, .ref (b 0))]) hx hb dX6_forged_31 hl (k := 1) rfl (iI_add _ _) (by decide) rfl (fun ls hl => ?_)
          refine lv_goto (tgt := 4) hx hb dX6_forged_34 (by decide) ?_
          exact ih (j + 1) ((j : Int) + 1) ((sm (fun i => b2i (s (224 + 5 * i) ≠ s (225 + 5 * i))) j) + 0) (by first | rfl | omega | (simp only [sm, b2i]; (repeat' split) <;> first | rfl | omega | (exfalso; omega) | (exfalso; simp_all))) (by first | rfl | omega | (simp only [sm, b2i]; (repeat' split) <;> first | rfl | omega | (exfalso; omega) | (exfalso; simp_all))) (by omega) (by omega) ls (lv_sub hl [0, 1, 2] rfl)
        · refine j_c hx hb dX6_forged_24 ?_
          refine lv_goto (tgt := 29) hx hb dX6_forged_25 (by decide) ?_
          refine j_add hx hb dX6_forged_29 ?_
          refine lv_istore_n (lv' := [(1, .int (iI ((sm (fun i => b2i (s (224 + 5 * i) ≠ s (225 + 5 * i))) j) + 1))), (2, .int (iI ((j : Int)))), (0, .ref (b 0))]) hx hb dX6_forged_30 rfl hl (by decide) rfl (fun ls hl => ?_)
          refine lv_iinc (v := iI ((j : Int) + 1)) (lv' := [(2, .int (iI ((j : Int) + 1))), (1, .int (iI ((sm (fun i => b2i (s (224 + 5 * i) ≠ s (225 + 5 * i))) j) + 1))), (0, .ref (b 0))]) hx hb dX6_forged_31 hl (k := 1) rfl (iI_add _ _) (by decide) rfl (fun ls hl => ?_)
          refine lv_goto (tgt := 4) hx hb dX6_forged_34 (by decide) ?_
          exact ih (j + 1) ((j : Int) + 1) ((sm (fun i => b2i (s (224 + 5 * i) ≠ s (225 + 5 * i))) j) + 1) (by first | rfl | omega | (simp only [sm, b2i]; (repeat' split) <;> first | rfl | omega | (exfalso; omega) | (exfalso; simp_all))) (by first | rfl | omega | (simp only [sm, b2i]; (repeat' split) <;> first | rfl | omega | (exfalso; omega) | (exfalso; simp_all))) (by omega) (by omega) ls (lv_sub hl [0, 1, 2] rfl)
  exact LP4 (_) 0 0 0 (by first | rfl | omega) (by first | rfl | omega) (by omega) (by exact Nat.lt_succ_self _) ls (lv_sub hl [0, 1, 2] rfl)
set_option maxHeartbeats 4000000 in
set_option maxRecDepth 100000 in
theorem kX6_timesDrawn (l : Launch) (D : va_G) (cI cV : ClassId) (b : Nat → Nat) (s pa he : Nat → Int) (np ru : Int) (t : Nat → Int) (ty at_ rd : Int) (x : Int) (hM : MS s) (r_x : rg x) : PM l yX6_timesDrawn wsX6_timesDrawn 0 0 [.ref (b 0), .int (iI (x))] (modw cI b s pa he np ru t ty at_ rd) D cI cV (some (.int (iI (sm (fun i => b2i (s (224 + 5 * i) = x)) (s 7).toNat)))) := by
  refine PM.of (cc := cX6_timesDrawn) (maxL := 4) (ret := (some .int)) (by decide) rfl (Nat.le_of_ble_eq_true rfl) ?_
  intro p e s0 m below meth c ls hx hb hr hts hown hlocks hml hP hK hl
  have hown : s0.vm.findClass RX6 = some m.cls := hown
  have hin : ∀ w ∈ u_ws RX6 TX6 9, w ∈ wsX6_timesDrawn := by decide +kernel
  have hl : lv_has ls 4 [(0, .ref (b 0)), (1, .int (iI (x)))] := hl
  obtain ⟨hbs, h00, h01, h10, h11, h30, h31, h40, h41, h70, h71, h60, h61, hco, hcn⟩ := id hM
  have hb5 := hbs 5
  have hb2 := hbs 2
  refine j_c hx hb dX6_timesDrawn_0 ?_
  refine lv_istore_n (lv' := [(2, .int (iI (0))), (0, .ref (b 0)), (1, .int (iI (x)))]) hx hb dX6_timesDrawn_1 rfl hl (by decide) rfl (fun ls hl => ?_)
  refine j_c hx hb dX6_timesDrawn_2 ?_
  refine lv_istore_n (lv' := [(3, .int (iI (0))), (2, .int (iI (0))), (0, .ref (b 0)), (1, .int (iI (x)))]) hx hb dX6_timesDrawn_3 rfl hl (by decide) rfl (fun ls hl => ?_)
  have LP4 : ∀ (fu : Nat) (j : Nat) (x3 x2 : Int), x3 = (j : Int) → x2 = sm (fun i => b2i (s (224 + 5 * i) = x)) j → ((j : Int) ≤ s 7) → (s 7).toNat - j < fu → ∀ ls : Array Slot, lv_has ls 4 [(3, .int (iI (x3))), (2, .int (iI (x2))), (0, .ref (b 0)), (1, .int (iI (x)))] → W p l e (headSpec wsX6_timesDrawn (rmK 0 0)).room s0 m ([.ref (b 0), .int (iI (x))] : List Value).toArray below meth c s0.heap [] 0 0 (MQ below (pQ (some (.int (iI (sm (fun i => b2i (s (224 + 5 * i) = x)) (s 7).toNat))))) ([.ref (b 0), .int (iI (x))] : List Value).toArray s0 0 0 (fun _ => False)) (F0 m 4 ls []) := by
    intro fu
    induction fu with
    | zero =>
      intros
      omega
    | succ fu ih =>
      intro j x3 x2 ex3 ex2 hinv hmeas  ls hl
      subst ex3
      subst ex2
      have hsm := sm_rg (f := fun i => b2i (s (224 + 5 * i) = x)) (fun k => b2i_rg) j
      refine lv_iload_n hx hb dX6_timesDrawn_4 rfl (lv_at hl 0 rfl) ?_
      refine lv_aload_n hx hb dX6_timesDrawn_5 rfl (lv_at hl 2 rfl) ?_
      refine Mg0 hx hb hts hin hown hK hP (by decide +kernel) dX6_timesDrawn_6 ?_
      refine j_bi hx hb dX6_timesDrawn_9 rfl ?_
      refine Ma0 hx hb hK hP (by omega) dX6_timesDrawn_11 ?_
      rw [show (7 : Int).toNat = 7 from by omega]
      have r0_32 : bd (s 7) := hbs _
      refine j_ige (tgt := 47) hx hb (by omega) (by omega) dX6_timesDrawn_12 (by decide) (fun c1 => ?_) (fun c1 => ?_)
      · refine lv_iload_n hx hb dX6_timesDrawn_47 rfl (lv_at hl 1 rfl) ?_
        exact p_iret hx hb hr hlocks (by rw [show (s 7).toNat = j from by omega]) dX6_timesDrawn_48
      · refine lv_iload_n hx hb dX6_timesDrawn_15 rfl (lv_at hl 1 rfl) ?_
        refine lv_aload_n hx hb dX6_timesDrawn_16 rfl (lv_at hl 2 rfl) ?_
        refine Mg0 hx hb hts hin hown hK hP (by decide +kernel) dX6_timesDrawn_17 ?_
        refine j_si hx hb dX6_timesDrawn_20 rfl ?_
        refine j_c hx hb dX6_timesDrawn_23 ?_
        refine lv_iload_n hx hb dX6_timesDrawn_24 rfl (lv_at hl 0 rfl) ?_
        refine j_mul hx hb dX6_timesDrawn_25 ?_
        refine j_add hx hb dX6_timesDrawn_26 ?_
        refine j_c hx hb dX6_timesDrawn_27 ?_
        refine j_add hx hb dX6_timesDrawn_28 ?_
        refine Ma0 hx hb hK hP (by omega) dX6_timesDrawn_29 ?_
        rw [show ((222 + (5 * (j : Int))) + 2 : Int).toNat = 224 + 5 * j from by omega]
        have r1_48 : bd (s (224 + 5 * j)) := hbs _
        refine lv_iload_n hx hb dX6_timesDrawn_30 rfl (lv_at hl 3 rfl) ?_
        refine j_ine (tgt := 38) hx hb (by omega) (by omega) dX6_timesDrawn_31 (by decide) (fun c2 => ?_) (fun c2 => ?_)
        · refine j_c hx hb dX6_timesDrawn_38 ?_
          refine j_add hx hb dX6_timesDrawn_39 ?_
          refine lv_istore_n (lv' := [(2, .int (iI ((sm (fun i => b2i (s (224 + 5 * i) = x)) j) + 0))), (3, .int (iI ((j : Int)))), (0, .ref (b 0)), (1, .int (iI (x)))]) hx hb dX6_timesDrawn_40 rfl hl (by decide) rfl (fun ls hl => ?_)
          refine lv_iinc (v := iI ((j : Int) + 1)) (lv' := [(3, .int (iI ((j : Int) + 1))), (2, .int (iI ((sm (fun i => b2i (s (224 + 5 * i) = x)) j) + 0))), (0, .ref (b 0)), (1, .int (iI (x)))]) hx hb dX6_timesDrawn_41 hl (k := 1) rfl (iI_add _ _) (by decide) rfl (fun ls hl => ?_)
          refine lv_goto (tgt := 4) hx hb dX6_timesDrawn_44 (by decide) ?_
          exact ih (j + 1) ((j : Int) + 1) ((sm (fun i => b2i (s (224 + 5 * i) = x)) j) + 0) (by first | rfl | omega | (simp only [sm, b2i]; (repeat' split) <;> first | rfl | omega | (exfalso; omega) | (exfalso; simp_all))) (by first | rfl | omega | (simp only [sm, b2i]; (repeat' split) <;> first | rfl | omega | (exfalso; omega) | (exfalso; simp_all))) (by omega) (by omega) ls (lv_sub hl [0, 1, 2, 3] rfl)
        · refine j_c hx hb dX6_timesDrawn_34 ?_
          refine lv_goto (tgt := 39) hx hb dX6_timesDrawn_35 (by decide) ?_
          refine j_add hx hb dX6_timesDrawn_39 ?_
          refine lv_istore_n (lv' := [(2, .int (iI ((sm (fun i => b2i (s (224 + 5 * i) = x)) j) + 1))), (3, .int (iI ((j : Int)))), (0, .ref (b 0)), (1, .int (iI (x)))]) hx hb dX6_timesDrawn_40 rfl hl (by decide) rfl (fun ls hl => ?_)
          refine lv_iinc (v := iI ((j : Int) + 1)) (lv' := [(3, .int (iI ((j : Int) + 1))), (2, .int (iI ((sm (fun i => b2i (s (224 + 5 * i) = x)) j) + 1))), (0, .ref (b 0)), (1, .int (iI (x)))]) hx hb dX6_timesDrawn_41 hl (k := 1) rfl (iI_add _ _) (by decide) rfl (fun ls hl => ?_)
          refine lv_goto (tgt := 4) hx hb dX6_timesDrawn_44 (by decide) ?_
          exact ih (j + 1) ((j : Int) + 1) ((sm (fun i => b2i (s (224 + 5 * i) = x)) j) + 1) (by first | rfl | omega | (simp only [sm, b2i]; (repeat' split) <;> first | rfl | omega | (exfalso; omega) | (exfalso; simp_all))) (by first | rfl | omega | (simp only [sm, b2i]; (repeat' split) <;> first | rfl | omega | (exfalso; omega) | (exfalso; simp_all))) (by omega) (by omega) ls (lv_sub hl [0, 1, 2, 3] rfl)
  exact LP4 (_) 0 0 0 (by first | rfl | omega) (by first | rfl | omega) (by omega) (by exact Nat.lt_succ_self _) ls (lv_sub hl [0, 1, 2, 3] rfl)
set_option maxHeartbeats 4000000 in
set_option maxRecDepth 100000 in
theorem kX6_copies (l : Launch) (D : va_G) (cI cV : ClassId) (b : Nat → Nat) (s pa he : Nat → Int) (np ru : Int) (t : Nat → Int) (ty at_ rd : Int) (y : Int) (hM : MS s) (r_y : rg y) : PM l yX6_copies wsX6_copies 0 0 [.ref (b 0), .int (iI (y))] (modw cI b s pa he np ru t ty at_ rd) D cI cV (some (.int (iI (sm (fun i => b2i (y < s (20 + i))) (s 0).toNat)))) := by
  refine PM.of (cc := cX6_copies) (maxL := 4) (ret := (some .int)) (by decide) rfl (Nat.le_of_ble_eq_true rfl) ?_
  intro p e s0 m below meth c ls hx hb hr hts hown hlocks hml hP hK hl
  have hown : s0.vm.findClass RX6 = some m.cls := hown
  have hin : ∀ w ∈ u_ws RX6 TX6 9, w ∈ wsX6_copies := by decide +kernel
  have hl : lv_has ls 4 [(0, .ref (b 0)), (1, .int (iI (y)))] := hl
  obtain ⟨hbs, h00, h01, h10, h11, h30, h31, h40, h41, h70, h71, h60, h61, hco, hcn⟩ := id hM
  have hb5 := hbs 5
  have hb2 := hbs 2
  refine j_c hx hb dX6_copies_0 ?_
  refine lv_istore_n (lv' := [(2, .int (iI (0))), (0, .ref (b 0)), (1, .int (iI (y)))]) hx hb dX6_copies_1 rfl hl (by decide) rfl (fun ls hl => ?_)
  refine j_c hx hb dX6_copies_2 ?_
  refine lv_istore_n (lv' := [(3, .int (iI (0))), (2, .int (iI (0))), (0, .ref (b 0)), (1, .int (iI (y)))]) hx hb dX6_copies_3 rfl hl (by decide) rfl (fun ls hl => ?_)
  have LP4 : ∀ (fu : Nat) (j : Nat) (x3 x2 : Int), x3 = (j : Int) → x2 = sm (fun i => b2i (y < s (20 + i))) j → ((j : Int) ≤ s 0) → (s 0).toNat - j < fu → ∀ ls : Array Slot, lv_has ls 4 [(3, .int (iI (x3))), (2, .int (iI (x2))), (0, .ref (b 0)), (1, .int (iI (y)))] → W p l e (headSpec wsX6_copies (rmK 0 0)).room s0 m ([.ref (b 0), .int (iI (y))] : List Value).toArray below meth c s0.heap [] 0 0 (MQ below (pQ (some (.int (iI (sm (fun i => b2i (y < s (20 + i))) (s 0).toNat))))) ([.ref (b 0), .int (iI (y))] : List Value).toArray s0 0 0 (fun _ => False)) (F0 m 4 ls []) := by
    intro fu
    induction fu with
    | zero =>
      intros
      omega
    | succ fu ih =>
      intro j x3 x2 ex3 ex2 hinv hmeas  ls hl
      subst ex3
      subst ex2
      have hsm := sm_rg (f := fun i => b2i (y < s (20 + i))) (fun k => b2i_rg) j
      refine lv_iload_n hx hb dX6_copies_4 rfl (lv_at hl 0 rfl) ?_
      refine lv_aload_n hx hb dX6_copies_5 rfl (lv_at hl 2 rfl) ?_
      refine Mg0 hx hb hts hin hown hK hP (by decide +kernel) dX6_copies_6 ?_
      refine j_c hx hb dX6_copies_9 ?_
      refine Ma0 hx hb hK hP (by omega) dX6_copies_10 ?_
      rw [show (0 : Int).toNat = 0 from by omega]
      have r0_32 : bd (s 0) := hbs _
      refine j_ige (tgt := 41) hx hb (by omega) (by omega) dX6_copies_11 (by decide) (fun c1 => ?_) (fun c1 => ?_)
      · refine lv_iload_n hx hb dX6_copies_41 rfl (lv_at hl 1 rfl) ?_
        exact p_iret hx hb hr hlocks (by rw [show (s 0).toNat = j from by omega]) dX6_copies_42
      · refine lv_iload_n hx hb dX6_copies_14 rfl (lv_at hl 1 rfl) ?_
        refine lv_aload_n hx hb dX6_copies_15 rfl (lv_at hl 2 rfl) ?_
        refine Mg0 hx hb hts hin hown hK hP (by decide +kernel) dX6_copies_16 ?_
        refine j_bi hx hb dX6_copies_19 rfl ?_
        refine lv_iload_n hx hb dX6_copies_21 rfl (lv_at hl 0 rfl) ?_
        refine j_add hx hb dX6_copies_22 ?_
        refine Ma0 hx hb hK hP (by omega) dX6_copies_23 ?_
        rw [show (20 + (j : Int) : Int).toNat = 20 + j from by omega]
        have r1_44 : bd (s (20 + j)) := hbs _
        refine lv_iload_n hx hb dX6_copies_24 rfl (lv_at hl 3 rfl) ?_
        refine j_ile (tgt := 32) hx hb (by omega) (by omega) dX6_copies_25 (by decide) (fun c2 => ?_) (fun c2 => ?_)
        · refine j_c hx hb dX6_copies_32 ?_
          refine j_add hx hb dX6_copies_33 ?_
          refine lv_istore_n (lv' := [(2, .int (iI ((sm (fun i => b2i (y < s (20 + i))) j) + 0))), (3, .int (iI ((j : Int)))), (0, .ref (b 0)), (1, .int (iI (y)))]) hx hb dX6_copies_34 rfl hl (by decide) rfl (fun ls hl => ?_)
          refine lv_iinc (v := iI ((j : Int) + 1)) (lv' := [(3, .int (iI ((j : Int) + 1))), (2, .int (iI ((sm (fun i => b2i (y < s (20 + i))) j) + 0))), (0, .ref (b 0)), (1, .int (iI (y)))]) hx hb dX6_copies_35 hl (k := 1) rfl (iI_add _ _) (by decide) rfl (fun ls hl => ?_)
          refine lv_goto (tgt := 4) hx hb dX6_copies_38 (by decide) ?_
          exact ih (j + 1) ((j : Int) + 1) ((sm (fun i => b2i (y < s (20 + i))) j) + 0) (by first | rfl | omega | (simp only [sm, b2i]; (repeat' split) <;> first | rfl | omega | (exfalso; omega) | (exfalso; simp_all))) (by first | rfl | omega | (simp only [sm, b2i]; (repeat' split) <;> first | rfl | omega | (exfalso; omega) | (exfalso; simp_all))) (by omega) (by omega) ls (lv_sub hl [0, 1, 2, 3] rfl)
        · refine j_c hx hb dX6_copies_28 ?_
          refine lv_goto (tgt := 33) hx hb dX6_copies_29 (by decide) ?_
          refine j_add hx hb dX6_copies_33 ?_
          refine lv_istore_n (lv' := [(2, .int (iI ((sm (fun i => b2i (y < s (20 + i))) j) + 1))), (3, .int (iI ((j : Int)))), (0, .ref (b 0)), (1, .int (iI (y)))]) hx hb dX6_copies_34 rfl hl (by decide) rfl (fun ls hl => ?_)
          refine lv_iinc (v := iI ((j : Int) + 1)) (lv' := [(3, .int (iI ((j : Int) + 1))), (2, .int (iI ((sm (fun i => b2i (y < s (20 + i))) j) + 1))), (0, .ref (b 0)), (1, .int (iI (y)))]) hx hb dX6_copies_35 hl (k := 1) rfl (iI_add _ _) (by decide) rfl (fun ls hl => ?_)
          refine lv_goto (tgt := 4) hx hb dX6_copies_38 (by decide) ?_
          exact ih (j + 1) ((j : Int) + 1) ((sm (fun i => b2i (y < s (20 + i))) j) + 1) (by first | rfl | omega | (simp only [sm, b2i]; (repeat' split) <;> first | rfl | omega | (exfalso; omega) | (exfalso; simp_all))) (by first | rfl | omega | (simp only [sm, b2i]; (repeat' split) <;> first | rfl | omega | (exfalso; omega) | (exfalso; simp_all))) (by omega) (by omega) ls (lv_sub hl [0, 1, 2, 3] rfl)
  exact LP4 (_) 0 0 0 (by first | rfl | omega) (by first | rfl | omega) (by omega) (by exact Nat.lt_succ_self _) ls (lv_sub hl [0, 1, 2, 3] rfl)
set_option maxHeartbeats 4000000 in
set_option maxRecDepth 100000 in
theorem kX6_fewest (l : Launch) (D : va_G) (cI cV : ClassId)  (x : Int) (y : Int) (z : Int) (h_x : bd x) (h_y : bd y) (h_z : bd z) : PM l yX6_fewest wsX6_fewest 0 0 [.int (iI (x)), .int (iI (y)), .int (iI (z))] (([] : va_W)) D cI cV (some (.int (iI (fewM x y z)))) := by
  refine PM.of (cc := cX6_fewest) (maxL := 5) (ret := (some .int)) (by decide) rfl (Nat.le_of_ble_eq_true rfl) ?_
  intro p e s0 m below meth c ls hx hb hr hts hown hlocks hml hP hK hl
  have hown : s0.vm.findClass RX6 = some m.cls := hown
  have hl : lv_has ls 5 [(0, .int (iI (x))), (1, .int (iI (y))), (2, .int (iI (z)))] := hl
  refine lv_iload_n hx hb dX6_fewest_0 rfl (lv_at hl 0 rfl) ?_
  refine lv_iload_n hx hb dX6_fewest_1 rfl (lv_at hl 1 rfl) ?_
  refine j_ile (tgt := 9) hx hb (by omega) (by omega) dX6_fewest_2 (by decide) (fun c1 => ?_) (fun c1 => ?_)
  · refine lv_iload_n hx hb dX6_fewest_9 rfl (lv_at hl 1 rfl) ?_
    refine lv_istore_n (lv' := [(3, .int (iI (y))), (0, .int (iI (x))), (1, .int (iI (y))), (2, .int (iI (z)))]) hx hb dX6_fewest_10 rfl hl (by decide) rfl (fun ls hl => ?_)
    refine lv_iload_n hx hb dX6_fewest_11 rfl (lv_at hl 0 rfl) ?_
    refine lv_iload_n hx hb dX6_fewest_12 rfl (lv_at hl 3 rfl) ?_
    refine j_ige (tgt := 20) hx hb (by omega) (by omega) dX6_fewest_13 (by decide) (fun c2 => ?_) (fun c2 => ?_)
    · refine lv_iload_n hx hb dX6_fewest_20 rfl (lv_at hl 3 rfl) ?_
      refine lv_istore (lv' := [(4, .int (iI (z))), (3, .int (iI (y))), (0, .int (iI (x))), (1, .int (iI (y))), (2, .int (iI (z)))]) hx hb dX6_fewest_21 hl (by decide) rfl (fun ls hl => ?_)
      refine lv_iload hx hb dX6_fewest_23 (lv_at hl 0 rfl) ?_
      refine j_zge (tgt := 32) hx hb (by omega) dX6_fewest_25 (by decide) (fun c3 => ?_) (fun c3 => ?_)
      · refine lv_iload hx hb dX6_fewest_32 (lv_at hl 0 rfl) ?_
        refine lv_istore (lv' := [(4, .int (iI (z))), (3, .int (iI (y))), (0, .int (iI (x))), (1, .int (iI (y))), (2, .int (iI (z)))]) hx hb dX6_fewest_34 hl (by decide) rfl (fun ls hl => ?_)
        refine lv_iload hx hb dX6_fewest_36 (lv_at hl 0 rfl) ?_
        refine lv_iload_n hx hb dX6_fewest_38 rfl (lv_at hl 2 rfl) ?_
        refine lv_iload hx hb dX6_fewest_39 (lv_at hl 0 rfl) ?_
        refine j_ile (tgt := 51) hx hb (by omega) (by omega) dX6_fewest_41 (by decide) (fun c4 => ?_) (fun c4 => ?_)
        · refine j_c hx hb dX6_fewest_51 ?_
          refine j_add hx hb dX6_fewest_52 ?_
          refine lv_iload_n hx hb dX6_fewest_53 rfl (lv_at hl 3 rfl) ?_
          refine lv_iload hx hb dX6_fewest_54 (lv_at hl 0 rfl) ?_
          refine j_ile (tgt := 66) hx hb (by omega) (by omega) dX6_fewest_56 (by decide) (fun c5 => ?_) (fun c5 => ?_)
          · refine j_c hx hb dX6_fewest_66 ?_
            refine j_add hx hb dX6_fewest_67 ?_
            exact p_iret hx hb hr hlocks (by simp only [fewM]; omega) dX6_fewest_68
          · refine lv_iload_n hx hb dX6_fewest_59 rfl (lv_at hl 3 rfl) ?_
            refine lv_iload hx hb dX6_fewest_60 (lv_at hl 0 rfl) ?_
            refine j_sub hx hb dX6_fewest_62 ?_
            refine lv_goto (tgt := 67) hx hb dX6_fewest_63 (by decide) ?_
            refine j_add hx hb dX6_fewest_67 ?_
            exact p_iret hx hb hr hlocks (by simp only [fewM]; omega) dX6_fewest_68
        · refine lv_iload_n hx hb dX6_fewest_44 rfl (lv_at hl 2 rfl) ?_
          refine lv_iload hx hb dX6_fewest_45 (lv_at hl 0 rfl) ?_
          refine j_sub hx hb dX6_fewest_47 ?_
          refine lv_goto (tgt := 52) hx hb dX6_fewest_48 (by decide) ?_
          refine j_add hx hb dX6_fewest_52 ?_
          refine lv_iload_n hx hb dX6_fewest_53 rfl (lv_at hl 3 rfl) ?_
          refine lv_iload hx hb dX6_fewest_54 (lv_at hl 0 rfl) ?_
          refine j_ile (tgt := 66) hx hb (by omega) (by omega) dX6_fewest_56 (by decide) (fun c6 => ?_) (fun c6 => ?_)
          · refine j_c hx hb dX6_fewest_66 ?_
            refine j_add hx hb dX6_fewest_67 ?_
            exact p_iret hx hb hr hlocks (by simp only [fewM]; omega) dX6_fewest_68
          · refine lv_iload_n hx hb dX6_fewest_59 rfl (lv_at hl 3 rfl) ?_
            refine lv_iload hx hb dX6_fewest_60 (lv_at hl 0 rfl) ?_
            refine j_sub hx hb dX6_fewest_62 ?_
            refine lv_goto (tgt := 67) hx hb dX6_fewest_63 (by decide) ?_
            refine j_add hx hb dX6_fewest_67 ?_
            exact p_iret hx hb hr hlocks (by simp only [fewM]; omega) dX6_fewest_68
      · refine j_c hx hb dX6_fewest_28 ?_
        refine lv_goto (tgt := 34) hx hb dX6_fewest_29 (by decide) ?_
        refine lv_istore (lv' := [(4, .int (iI (0))), (3, .int (iI (y))), (0, .int (iI (x))), (1, .int (iI (y))), (2, .int (iI (z)))]) hx hb dX6_fewest_34 hl (by decide) rfl (fun ls hl => ?_)
        refine lv_iload hx hb dX6_fewest_36 (lv_at hl 0 rfl) ?_
        refine lv_iload_n hx hb dX6_fewest_38 rfl (lv_at hl 2 rfl) ?_
        refine lv_iload hx hb dX6_fewest_39 (lv_at hl 0 rfl) ?_
        refine j_ile (tgt := 51) hx hb (by omega) (by omega) dX6_fewest_41 (by decide) (fun c7 => ?_) (fun c7 => ?_)
        · refine j_c hx hb dX6_fewest_51 ?_
          refine j_add hx hb dX6_fewest_52 ?_
          refine lv_iload_n hx hb dX6_fewest_53 rfl (lv_at hl 3 rfl) ?_
          refine lv_iload hx hb dX6_fewest_54 (lv_at hl 0 rfl) ?_
          refine j_ile (tgt := 66) hx hb (by omega) (by omega) dX6_fewest_56 (by decide) (fun c8 => ?_) (fun c8 => ?_)
          · refine j_c hx hb dX6_fewest_66 ?_
            refine j_add hx hb dX6_fewest_67 ?_
            exact p_iret hx hb hr hlocks (by simp only [fewM]; omega) dX6_fewest_68
          · refine lv_iload_n hx hb dX6_fewest_59 rfl (lv_at hl 3 rfl) ?_
            refine lv_iload hx hb dX6_fewest_60 (lv_at hl 0 rfl) ?_
            refine j_sub hx hb dX6_fewest_62 ?_
            refine lv_goto (tgt := 67) hx hb dX6_fewest_63 (by decide) ?_
            refine j_add hx hb dX6_fewest_67 ?_
            exact p_iret hx hb hr hlocks (by simp only [fewM]; omega) dX6_fewest_68
        · refine lv_iload_n hx hb dX6_fewest_44 rfl (lv_at hl 2 rfl) ?_
          refine lv_iload hx hb dX6_fewest_45 (lv_at hl 0 rfl) ?_
          refine j_sub hx hb dX6_fewest_47 ?_
          refine lv_goto (tgt := 52) hx hb dX6_fewest_48 (by decide) ?_
          refine j_add hx hb dX6_fewest_52 ?_
          refine lv_iload_n hx hb dX6_fewest_53 rfl (lv_at hl 3 rfl) ?_
          refine lv_iload hx hb dX6_fewest_54 (lv_at hl 0 rfl) ?_
          refine j_ile (tgt := 66) hx hb (by omega) (by omega) dX6_fewest_56 (by decide) (fun c9 => ?_) (fun c9 => ?_)
          · refine j_c hx hb dX6_fewest_66 ?_
            refine j_add hx hb dX6_fewest_67 ?_
            exact p_iret hx hb hr hlocks (by simp only [fewM]; omega) dX6_fewest_68
          · refine lv_iload_n hx hb dX6_fewest_59 rfl (lv_at hl 3 rfl) ?_
            refine lv_iload hx hb dX6_fewest_60 (lv_at hl 0 rfl) ?_
            refine j_sub hx hb dX6_fewest_62 ?_
            refine lv_goto (tgt := 67) hx hb dX6_fewest_63 (by decide) ?_
            refine j_add hx hb dX6_fewest_67 ?_
            exact p_iret hx hb hr hlocks (by simp only [fewM]; omega) dX6_fewest_68
    · refine lv_iload_n hx hb dX6_fewest_16 rfl (lv_at hl 0 rfl) ?_
      refine lv_goto (tgt := 21) hx hb dX6_fewest_17 (by decide) ?_
      refine lv_istore (lv' := [(4, .int (iI (y))), (3, .int (iI (y))), (0, .int (iI (x))), (1, .int (iI (y))), (2, .int (iI (z)))]) hx hb dX6_fewest_21 hl (by decide) rfl (fun ls hl => ?_)
      refine lv_iload hx hb dX6_fewest_23 (lv_at hl 0 rfl) ?_
      refine j_zge (tgt := 32) hx hb (by omega) dX6_fewest_25 (by decide) (fun c10 => ?_) (fun c10 => ?_)
      · refine lv_iload hx hb dX6_fewest_32 (lv_at hl 0 rfl) ?_
        refine lv_istore (lv' := [(4, .int (iI (y))), (3, .int (iI (y))), (0, .int (iI (x))), (1, .int (iI (y))), (2, .int (iI (z)))]) hx hb dX6_fewest_34 hl (by decide) rfl (fun ls hl => ?_)
        refine lv_iload hx hb dX6_fewest_36 (lv_at hl 0 rfl) ?_
        refine lv_iload_n hx hb dX6_fewest_38 rfl (lv_at hl 2 rfl) ?_
        refine lv_iload hx hb dX6_fewest_39 (lv_at hl 0 rfl) ?_
        refine j_ile (tgt := 51) hx hb (by omega) (by omega) dX6_fewest_41 (by decide) (fun c11 => ?_) (fun c11 => ?_)
        · refine j_c hx hb dX6_fewest_51 ?_
          refine j_add hx hb dX6_fewest_52 ?_
          refine lv_iload_n hx hb dX6_fewest_53 rfl (lv_at hl 3 rfl) ?_
          refine lv_iload hx hb dX6_fewest_54 (lv_at hl 0 rfl) ?_
          refine j_ile (tgt := 66) hx hb (by omega) (by omega) dX6_fewest_56 (by decide) (fun c12 => ?_) (fun c12 => ?_)
          · refine j_c hx hb dX6_fewest_66 ?_
            refine j_add hx hb dX6_fewest_67 ?_
            exact p_iret hx hb hr hlocks (by simp only [fewM]; omega) dX6_fewest_68
          · refine lv_iload_n hx hb dX6_fewest_59 rfl (lv_at hl 3 rfl) ?_
            refine lv_iload hx hb dX6_fewest_60 (lv_at hl 0 rfl) ?_
            refine j_sub hx hb dX6_fewest_62 ?_
            refine lv_goto (tgt := 67) hx hb dX6_fewest_63 (by decide) ?_
            refine j_add hx hb dX6_fewest_67 ?_
            exact p_iret hx hb hr hlocks (by simp only [fewM]; omega) dX6_fewest_68
        · refine lv_iload_n hx hb dX6_fewest_44 rfl (lv_at hl 2 rfl) ?_
          refine lv_iload hx hb dX6_fewest_45 (lv_at hl 0 rfl) ?_
          refine j_sub hx hb dX6_fewest_47 ?_
          refine lv_goto (tgt := 52) hx hb dX6_fewest_48 (by decide) ?_
          refine j_add hx hb dX6_fewest_52 ?_
          refine lv_iload_n hx hb dX6_fewest_53 rfl (lv_at hl 3 rfl) ?_
          refine lv_iload hx hb dX6_fewest_54 (lv_at hl 0 rfl) ?_
          refine j_ile (tgt := 66) hx hb (by omega) (by omega) dX6_fewest_56 (by decide) (fun c13 => ?_) (fun c13 => ?_)
          · refine j_c hx hb dX6_fewest_66 ?_
            refine j_add hx hb dX6_fewest_67 ?_
            exact p_iret hx hb hr hlocks (by simp only [fewM]; omega) dX6_fewest_68
          · refine lv_iload_n hx hb dX6_fewest_59 rfl (lv_at hl 3 rfl) ?_
            refine lv_iload hx hb dX6_fewest_60 (lv_at hl 0 rfl) ?_
            refine j_sub hx hb dX6_fewest_62 ?_
            refine lv_goto (tgt := 67) hx hb dX6_fewest_63 (by decide) ?_
            refine j_add hx hb dX6_fewest_67 ?_
            exact p_iret hx hb hr hlocks (by simp only [fewM]; omega) dX6_fewest_68
      · refine j_c hx hb dX6_fewest_28 ?_
        refine lv_goto (tgt := 34) hx hb dX6_fewest_29 (by decide) ?_
        refine lv_istore (lv' := [(4, .int (iI (0))), (3, .int (iI (y))), (0, .int (iI (x))), (1, .int (iI (y))), (2, .int (iI (z)))]) hx hb dX6_fewest_34 hl (by decide) rfl (fun ls hl => ?_)
        refine lv_iload hx hb dX6_fewest_36 (lv_at hl 0 rfl) ?_
        refine lv_iload_n hx hb dX6_fewest_38 rfl (lv_at hl 2 rfl) ?_
        refine lv_iload hx hb dX6_fewest_39 (lv_at hl 0 rfl) ?_
        refine j_ile (tgt := 51) hx hb (by omega) (by omega) dX6_fewest_41 (by decide) (fun c14 => ?_) (fun c14 => ?_)
        · refine j_c hx hb dX6_fewest_51 ?_
          refine j_add hx hb dX6_fewest_52 ?_
          refine lv_iload_n hx hb dX6_fewest_53 rfl (lv_at hl 3 rfl) ?_
          refine lv_iload hx hb dX6_fewest_54 (lv_at hl 0 rfl) ?_
          refine j_ile (tgt := 66) hx hb (by omega) (by omega) dX6_fewest_56 (by decide) (fun c15 => ?_) (fun c15 => ?_)
          · refine j_c hx hb dX6_fewest_66 ?_
            refine j_add hx hb dX6_fewest_67 ?_
            exact p_iret hx hb hr hlocks (by simp only [fewM]; omega) dX6_fewest_68
          · refine lv_iload_n hx hb dX6_fewest_59 rfl (lv_at hl 3 rfl) ?_
            refine lv_iload hx hb dX6_fewest_60 (lv_at hl 0 rfl) ?_
            refine j_sub hx hb dX6_fewest_62 ?_
            refine lv_goto (tgt := 67) hx hb dX6_fewest_63 (by decide) ?_
            refine j_add hx hb dX6_fewest_67 ?_
            exact p_iret hx hb hr hlocks (by simp only [fewM]; omega) dX6_fewest_68
        · refine lv_iload_n hx hb dX6_fewest_44 rfl (lv_at hl 2 rfl) ?_
          refine lv_iload hx hb dX6_fewest_45 (lv_at hl 0 rfl) ?_
          refine j_sub hx hb dX6_fewest_47 ?_
          refine lv_goto (tgt := 52) hx hb dX6_fewest_48 (by decide) ?_
          refine j_add hx hb dX6_fewest_52 ?_
          refine lv_iload_n hx hb dX6_fewest_53 rfl (lv_at hl 3 rfl) ?_
          refine lv_iload hx hb dX6_fewest_54 (lv_at hl 0 rfl) ?_
          refine j_ile (tgt := 66) hx hb (by omega) (by omega) dX6_fewest_56 (by decide) (fun c16 => ?_) (fun c16 => ?_)
          · refine j_c hx hb dX6_fewest_66 ?_
            refine j_add hx hb dX6_fewest_67 ?_
            exact p_iret hx hb hr hlocks (by simp only [fewM]; omega) dX6_fewest_68
          · refine lv_iload_n hx hb dX6_fewest_59 rfl (lv_at hl 3 rfl) ?_
            refine lv_iload hx hb dX6_fewest_60 (lv_at hl 0 rfl) ?_
            refine j_sub hx hb dX6_fewest_62 ?_
            refine lv_goto (tgt := 67) hx hb dX6_fewest_63 (by decide) ?_
            refine j_add hx hb dX6_fewest_67 ?_
            exact p_iret hx hb hr hlocks (by simp only [fewM]; omega) dX6_fewest_68
  · refine lv_iload_n hx hb dX6_fewest_5 rfl (lv_at hl 0 rfl) ?_
    refine lv_goto (tgt := 10) hx hb dX6_fewest_6 (by decide) ?_
    refine lv_istore_n (lv' := [(3, .int (iI (x))), (0, .int (iI (x))), (1, .int (iI (y))), (2, .int (iI (z)))]) hx hb dX6_fewest_10 rfl hl (by decide) rfl (fun ls hl => ?_)
    refine lv_iload_n hx hb dX6_fewest_11 rfl (lv_at hl 0 rfl) ?_
    refine lv_iload_n hx hb dX6_fewest_12 rfl (lv_at hl 3 rfl) ?_
    refine j_ige (tgt := 20) hx hb (by omega) (by omega) dX6_fewest_13 (by decide) (fun c17 => ?_) (fun c17 => ?_)
    · refine lv_iload_n hx hb dX6_fewest_20 rfl (lv_at hl 3 rfl) ?_
      refine lv_istore (lv' := [(4, .int (iI (z))), (3, .int (iI (x))), (0, .int (iI (x))), (1, .int (iI (y))), (2, .int (iI (z)))]) hx hb dX6_fewest_21 hl (by decide) rfl (fun ls hl => ?_)
      refine lv_iload hx hb dX6_fewest_23 (lv_at hl 0 rfl) ?_
      refine j_zge (tgt := 32) hx hb (by omega) dX6_fewest_25 (by decide) (fun c18 => ?_) (fun c18 => ?_)
      · refine lv_iload hx hb dX6_fewest_32 (lv_at hl 0 rfl) ?_
        refine lv_istore (lv' := [(4, .int (iI (z))), (3, .int (iI (x))), (0, .int (iI (x))), (1, .int (iI (y))), (2, .int (iI (z)))]) hx hb dX6_fewest_34 hl (by decide) rfl (fun ls hl => ?_)
        refine lv_iload hx hb dX6_fewest_36 (lv_at hl 0 rfl) ?_
        refine lv_iload_n hx hb dX6_fewest_38 rfl (lv_at hl 2 rfl) ?_
        refine lv_iload hx hb dX6_fewest_39 (lv_at hl 0 rfl) ?_
        refine j_ile (tgt := 51) hx hb (by omega) (by omega) dX6_fewest_41 (by decide) (fun c19 => ?_) (fun c19 => ?_)
        · refine j_c hx hb dX6_fewest_51 ?_
          refine j_add hx hb dX6_fewest_52 ?_
          refine lv_iload_n hx hb dX6_fewest_53 rfl (lv_at hl 3 rfl) ?_
          refine lv_iload hx hb dX6_fewest_54 (lv_at hl 0 rfl) ?_
          refine j_ile (tgt := 66) hx hb (by omega) (by omega) dX6_fewest_56 (by decide) (fun c20 => ?_) (fun c20 => ?_)
          · refine j_c hx hb dX6_fewest_66 ?_
            refine j_add hx hb dX6_fewest_67 ?_
            exact p_iret hx hb hr hlocks (by simp only [fewM]; omega) dX6_fewest_68
          · refine lv_iload_n hx hb dX6_fewest_59 rfl (lv_at hl 3 rfl) ?_
            refine lv_iload hx hb dX6_fewest_60 (lv_at hl 0 rfl) ?_
            refine j_sub hx hb dX6_fewest_62 ?_
            refine lv_goto (tgt := 67) hx hb dX6_fewest_63 (by decide) ?_
            refine j_add hx hb dX6_fewest_67 ?_
            exact p_iret hx hb hr hlocks (by simp only [fewM]; omega) dX6_fewest_68
        · refine lv_iload_n hx hb dX6_fewest_44 rfl (lv_at hl 2 rfl) ?_
          refine lv_iload hx hb dX6_fewest_45 (lv_at hl 0 rfl) ?_
          refine j_sub hx hb dX6_fewest_47 ?_
          refine lv_goto (tgt := 52) hx hb dX6_fewest_48 (by decide) ?_
          refine j_add hx hb dX6_fewest_52 ?_
          refine lv_iload_n hx hb dX6_fewest_53 rfl (lv_at hl 3 rfl) ?_
          refine lv_iload hx hb dX6_fewest_54 (lv_at hl 0 rfl) ?_
          refine j_ile (tgt := 66) hx hb (by omega) (by omega) dX6_fewest_56 (by decide) (fun c21 => ?_) (fun c21 => ?_)
          · refine j_c hx hb dX6_fewest_66 ?_
            refine j_add hx hb dX6_fewest_67 ?_
            exact p_iret hx hb hr hlocks (by simp only [fewM]; omega) dX6_fewest_68
          · refine lv_iload_n hx hb dX6_fewest_59 rfl (lv_at hl 3 rfl) ?_
            refine lv_iload hx hb dX6_fewest_60 (lv_at hl 0 rfl) ?_
            refine j_sub hx hb dX6_fewest_62 ?_
            refine lv_goto (tgt := 67) hx hb dX6_fewest_63 (by decide) ?_
            refine j_add hx hb dX6_fewest_67 ?_
            exact p_iret hx hb hr hlocks (by simp only [fewM]; omega) dX6_fewest_68
      · refine j_c hx hb dX6_fewest_28 ?_
        refine lv_goto (tgt := 34) hx hb dX6_fewest_29 (by decide) ?_
        refine lv_istore (lv' := [(4, .int (iI (0))), (3, .int (iI (x))), (0, .int (iI (x))), (1, .int (iI (y))), (2, .int (iI (z)))]) hx hb dX6_fewest_34 hl (by decide) rfl (fun ls hl => ?_)
        refine lv_iload hx hb dX6_fewest_36 (lv_at hl 0 rfl) ?_
        refine lv_iload_n hx hb dX6_fewest_38 rfl (lv_at hl 2 rfl) ?_
        refine lv_iload hx hb dX6_fewest_39 (lv_at hl 0 rfl) ?_
        refine j_ile (tgt := 51) hx hb (by omega) (by omega) dX6_fewest_41 (by decide) (fun c22 => ?_) (fun c22 => ?_)
        · refine j_c hx hb dX6_fewest_51 ?_
          refine j_add hx hb dX6_fewest_52 ?_
          refine lv_iload_n hx hb dX6_fewest_53 rfl (lv_at hl 3 rfl) ?_
          refine lv_iload hx hb dX6_fewest_54 (lv_at hl 0 rfl) ?_
          refine j_ile (tgt := 66) hx hb (by omega) (by omega) dX6_fewest_56 (by decide) (fun c23 => ?_) (fun c23 => ?_)
          · refine j_c hx hb dX6_fewest_66 ?_
            refine j_add hx hb dX6_fewest_67 ?_
            exact p_iret hx hb hr hlocks (by simp only [fewM]; omega) dX6_fewest_68
          · refine lv_iload_n hx hb dX6_fewest_59 rfl (lv_at hl 3 rfl) ?_
            refine lv_iload hx hb dX6_fewest_60 (lv_at hl 0 rfl) ?_
            refine j_sub hx hb dX6_fewest_62 ?_
            refine lv_goto (tgt := 67) hx hb dX6_fewest_63 (by decide) ?_
            refine j_add hx hb dX6_fewest_67 ?_
            exact p_iret hx hb hr hlocks (by simp only [fewM]; omega) dX6_fewest_68
        · refine lv_iload_n hx hb dX6_fewest_44 rfl (lv_at hl 2 rfl) ?_
          refine lv_iload hx hb dX6_fewest_45 (lv_at hl 0 rfl) ?_
          refine j_sub hx hb dX6_fewest_47 ?_
          refine lv_goto (tgt := 52) hx hb dX6_fewest_48 (by decide) ?_
          refine j_add hx hb dX6_fewest_52 ?_
          refine lv_iload_n hx hb dX6_fewest_53 rfl (lv_at hl 3 rfl) ?_
          refine lv_iload hx hb dX6_fewest_54 (lv_at hl 0 rfl) ?_
          refine j_ile (tgt := 66) hx hb (by omega) (by omega) dX6_fewest_56 (by decide) (fun c24 => ?_) (fun c24 => ?_)
          · refine j_c hx hb dX6_fewest_66 ?_
            refine j_add hx hb dX6_fewest_67 ?_
            exact p_iret hx hb hr hlocks (by simp only [fewM]; omega) dX6_fewest_68
          · refine lv_iload_n hx hb dX6_fewest_59 rfl (lv_at hl 3 rfl) ?_
            refine lv_iload hx hb dX6_fewest_60 (lv_at hl 0 rfl) ?_
            refine j_sub hx hb dX6_fewest_62 ?_
            refine lv_goto (tgt := 67) hx hb dX6_fewest_63 (by decide) ?_
            refine j_add hx hb dX6_fewest_67 ?_
            exact p_iret hx hb hr hlocks (by simp only [fewM]; omega) dX6_fewest_68
    · refine lv_iload_n hx hb dX6_fewest_16 rfl (lv_at hl 0 rfl) ?_
      refine lv_goto (tgt := 21) hx hb dX6_fewest_17 (by decide) ?_
      refine lv_istore (lv' := [(4, .int (iI (x))), (3, .int (iI (x))), (0, .int (iI (x))), (1, .int (iI (y))), (2, .int (iI (z)))]) hx hb dX6_fewest_21 hl (by decide) rfl (fun ls hl => ?_)
      refine lv_iload hx hb dX6_fewest_23 (lv_at hl 0 rfl) ?_
      refine j_zge (tgt := 32) hx hb (by omega) dX6_fewest_25 (by decide) (fun c25 => ?_) (fun c25 => ?_)
      · refine lv_iload hx hb dX6_fewest_32 (lv_at hl 0 rfl) ?_
        refine lv_istore (lv' := [(4, .int (iI (x))), (3, .int (iI (x))), (0, .int (iI (x))), (1, .int (iI (y))), (2, .int (iI (z)))]) hx hb dX6_fewest_34 hl (by decide) rfl (fun ls hl => ?_)
        refine lv_iload hx hb dX6_fewest_36 (lv_at hl 0 rfl) ?_
        refine lv_iload_n hx hb dX6_fewest_38 rfl (lv_at hl 2 rfl) ?_
        refine lv_iload hx hb dX6_fewest_39 (lv_at hl 0 rfl) ?_
        refine j_ile (tgt := 51) hx hb (by omega) (by omega) dX6_fewest_41 (by decide) (fun c26 => ?_) (fun c26 => ?_)
        · refine j_c hx hb dX6_fewest_51 ?_
          refine j_add hx hb dX6_fewest_52 ?_
          refine lv_iload_n hx hb dX6_fewest_53 rfl (lv_at hl 3 rfl) ?_
          refine lv_iload hx hb dX6_fewest_54 (lv_at hl 0 rfl) ?_
          refine j_ile (tgt := 66) hx hb (by omega) (by omega) dX6_fewest_56 (by decide) (fun c27 => ?_) (fun c27 => ?_)
          · refine j_c hx hb dX6_fewest_66 ?_
            refine j_add hx hb dX6_fewest_67 ?_
            exact p_iret hx hb hr hlocks (by simp only [fewM]; omega) dX6_fewest_68
          · refine lv_iload_n hx hb dX6_fewest_59 rfl (lv_at hl 3 rfl) ?_
            refine lv_iload hx hb dX6_fewest_60 (lv_at hl 0 rfl) ?_
            refine j_sub hx hb dX6_fewest_62 ?_
            refine lv_goto (tgt := 67) hx hb dX6_fewest_63 (by decide) ?_
            refine j_add hx hb dX6_fewest_67 ?_
            exact p_iret hx hb hr hlocks (by simp only [fewM]; omega) dX6_fewest_68
        · refine lv_iload_n hx hb dX6_fewest_44 rfl (lv_at hl 2 rfl) ?_
          refine lv_iload hx hb dX6_fewest_45 (lv_at hl 0 rfl) ?_
          refine j_sub hx hb dX6_fewest_47 ?_
          refine lv_goto (tgt := 52) hx hb dX6_fewest_48 (by decide) ?_
          refine j_add hx hb dX6_fewest_52 ?_
          refine lv_iload_n hx hb dX6_fewest_53 rfl (lv_at hl 3 rfl) ?_
          refine lv_iload hx hb dX6_fewest_54 (lv_at hl 0 rfl) ?_
          refine j_ile (tgt := 66) hx hb (by omega) (by omega) dX6_fewest_56 (by decide) (fun c28 => ?_) (fun c28 => ?_)
          · refine j_c hx hb dX6_fewest_66 ?_
            refine j_add hx hb dX6_fewest_67 ?_
            exact p_iret hx hb hr hlocks (by simp only [fewM]; omega) dX6_fewest_68
          · refine lv_iload_n hx hb dX6_fewest_59 rfl (lv_at hl 3 rfl) ?_
            refine lv_iload hx hb dX6_fewest_60 (lv_at hl 0 rfl) ?_
            refine j_sub hx hb dX6_fewest_62 ?_
            refine lv_goto (tgt := 67) hx hb dX6_fewest_63 (by decide) ?_
            refine j_add hx hb dX6_fewest_67 ?_
            exact p_iret hx hb hr hlocks (by simp only [fewM]; omega) dX6_fewest_68
      · refine j_c hx hb dX6_fewest_28 ?_
        refine lv_goto (tgt := 34) hx hb dX6_fewest_29 (by decide) ?_
        refine lv_istore (lv' := [(4, .int (iI (0))), (3, .int (iI (x))), (0, .int (iI (x))), (1, .int (iI (y))), (2, .int (iI (z)))]) hx hb dX6_fewest_34 hl (by decide) rfl (fun ls hl => ?_)
        refine lv_iload hx hb dX6_fewest_36 (lv_at hl 0 rfl) ?_
        refine lv_iload_n hx hb dX6_fewest_38 rfl (lv_at hl 2 rfl) ?_
        refine lv_iload hx hb dX6_fewest_39 (lv_at hl 0 rfl) ?_
        refine j_ile (tgt := 51) hx hb (by omega) (by omega) dX6_fewest_41 (by decide) (fun c29 => ?_) (fun c29 => ?_)
        · refine j_c hx hb dX6_fewest_51 ?_
          refine j_add hx hb dX6_fewest_52 ?_
          refine lv_iload_n hx hb dX6_fewest_53 rfl (lv_at hl 3 rfl) ?_
          refine lv_iload hx hb dX6_fewest_54 (lv_at hl 0 rfl) ?_
          refine j_ile (tgt := 66) hx hb (by omega) (by omega) dX6_fewest_56 (by decide) (fun c30 => ?_) (fun c30 => ?_)
          · refine j_c hx hb dX6_fewest_66 ?_
            refine j_add hx hb dX6_fewest_67 ?_
            exact p_iret hx hb hr hlocks (by simp only [fewM]; omega) dX6_fewest_68
          · refine lv_iload_n hx hb dX6_fewest_59 rfl (lv_at hl 3 rfl) ?_
            refine lv_iload hx hb dX6_fewest_60 (lv_at hl 0 rfl) ?_
            refine j_sub hx hb dX6_fewest_62 ?_
            refine lv_goto (tgt := 67) hx hb dX6_fewest_63 (by decide) ?_
            refine j_add hx hb dX6_fewest_67 ?_
            exact p_iret hx hb hr hlocks (by simp only [fewM]; omega) dX6_fewest_68
        · refine lv_iload_n hx hb dX6_fewest_44 rfl (lv_at hl 2 rfl) ?_
          refine lv_iload hx hb dX6_fewest_45 (lv_at hl 0 rfl) ?_
          refine j_sub hx hb dX6_fewest_47 ?_
          refine lv_goto (tgt := 52) hx hb dX6_fewest_48 (by decide) ?_
          refine j_add hx hb dX6_fewest_52 ?_
          refine lv_iload_n hx hb dX6_fewest_53 rfl (lv_at hl 3 rfl) ?_
          refine lv_iload hx hb dX6_fewest_54 (lv_at hl 0 rfl) ?_
          refine j_ile (tgt := 66) hx hb (by omega) (by omega) dX6_fewest_56 (by decide) (fun c31 => ?_) (fun c31 => ?_)
          · refine j_c hx hb dX6_fewest_66 ?_
            refine j_add hx hb dX6_fewest_67 ?_
            exact p_iret hx hb hr hlocks (by simp only [fewM]; omega) dX6_fewest_68
          · refine lv_iload_n hx hb dX6_fewest_59 rfl (lv_at hl 3 rfl) ?_
            refine lv_iload hx hb dX6_fewest_60 (lv_at hl 0 rfl) ?_
            refine j_sub hx hb dX6_fewest_62 ?_
            refine lv_goto (tgt := 67) hx hb dX6_fewest_63 (by decide) ?_
            refine j_add hx hb dX6_fewest_67 ?_
            exact p_iret hx hb hr hlocks (by simp only [fewM]; omega) dX6_fewest_68
