/-- what is known of the reference's row -/
def MS (s : Nat → Int) : Prop := (∀ k, bd (s k)) ∧ 0 ≤ s 0 ∧ s 0 ≤ 12 ∧ 0 ≤ s 1 ∧ s 1 ≤ 5 ∧ 0 ≤ s 3 ∧ s 3 ≤ 60 ∧ 0 ≤ s 4 ∧ s 4 ≤ s 3 ∧ 0 ≤ s 7 ∧ s 7 ≤ 60 ∧ 0 ≤ s 6 ∧ s 6 < 65536 ∧ (∀ i, i < 5 → 0 ≤ s (32 + i) ∧ s (32 + i) < 12) ∧ (∀ i, i < 5 → 0 ≤ s (37 + i) ∧ s (37 + i) < 12)
/-- the last place of v, or -9 -/
def seatL (el : Nat → Int) (v : Int) : Nat → Int
  | 0 => -9
  | n + 1 => if el n = v then (n : Int) else seatL el v n
theorem seatL_rg {el : Nat → Int} {v : Int} : ∀ n, -9 ≤ seatL el v n ∧ seatL el v n < n ∧ (seatL el v n = -9 ∨ 0 ≤ seatL el v n)
  | 0 => ⟨by simp [seatL], by simp [seatL], by simp [seatL]⟩
  | n + 1 => by
    have := seatL_rg (el := el) (v := v) n
    simp only [seatL]
    split <;> omega
def pickL (f : Nat → Int) (p : Int) : Nat → Int
  | 0 => -9
  | n + 1 => if f n = 1 ∧ sm f n = p then (n : Int) else pickL f p n
theorem pickL_rg {f : Nat → Int} {p : Int} : ∀ n, -9 ≤ pickL f p n ∧ pickL f p n < n
  | 0 => ⟨by simp [pickL], by simp [pickL]⟩
  | n + 1 => by
    have := pickL_rg (f := f) (p := p) n
    simp only [pickL]
    split <;> omega
theorem sm_le {f : Nat → Int} (h : ∀ k, 0 ≤ f k) : ∀ {i n : Nat}, i ≤ n → sm f i ≤ sm f n := by
  intro i n hin
  induction n with
  | zero => rw [show i = 0 from by omega]; exact Int.le_refl _
  | succ n ih =>
    by_cases e : i = n + 1
    · subst e; exact Int.le_refl _
    · have h1 := ih (by omega)
      have h2 := h n
      simp only [sm]
      omega
theorem sm_pos {f : Nat → Int} (h : ∀ k, 0 ≤ f k) {i n : Nat} (hi : i < n) (h1 : f i = 1) : 1 ≤ sm f n := by
  have a := sm_le h (show i + 1 ≤ n by omega)
  have b := sm_le h (show 0 ≤ i by omega)
  simp only [sm] at a b
  omega
def fewM (x y z : Int) : Int := max 0 (min (max x y) z) + max (x - max 0 (min (max x y) z)) 0 + max (y - max 0 (min (max x y) z)) 0
set_option maxHeartbeats 4000000 in
set_option maxRecDepth 100000 in
theorem kX6_in (l : Launch) (D : va_G) (cI cV : ClassId)  (x : Int) (y : Int) (z : Int) (r_x : rg x) (r_y : rg y) (r_z : rg z) : PM l yX6_in wsX6_in 0 0 [.int (iI (x)), .int (iI (y)), .int (iI (z))] (([] : va_W)) D cI cV (some (.int (iI (b2i (y ≤ x ∧ x ≤ z))))) := by
  refine PM.of (cc := cX6_in) (maxL := 3) (ret := (some .boolean)) (by decide) rfl (Nat.le_of_ble_eq_true rfl) ?_
  intro p e s0 m below meth c ls hx hb hr hts hown hlocks hml hP hK hl
  have hown : s0.vm.findClass RX6 = some m.cls := hown
  have hl : lv_has ls 3 [(0, .int (iI (x))), (1, .int (iI (y))), (2, .int (iI (z)))] := hl
  refine lv_iload_n hx hb dX6_in_0 rfl (lv_at hl 0 rfl) ?_
  refine lv_iload_n hx hb dX6_in_1 rfl (lv_at hl 1 rfl) ?_
  refine j_ilt (tgt := 14) hx hb (by omega) (by omega) dX6_in_2 (by decide) (fun c1 => ?_) (fun c1 => ?_)
  · refine j_c hx hb dX6_in_14 ?_
    exact p_zret hx hb hr hlocks (by first | decide | exact b2i_or) (by first | rfl | omega | exact (b2i_t (by omega)).symm | exact (b2i_f (by omega)).symm | (simp only [b2i]; (repeat' split) <;> first | rfl | omega | (exfalso; omega))) dX6_in_15
  · refine lv_iload_n hx hb dX6_in_5 rfl (lv_at hl 0 rfl) ?_
    refine lv_iload_n hx hb dX6_in_6 rfl (lv_at hl 2 rfl) ?_
    refine j_igt (tgt := 14) hx hb (by omega) (by omega) dX6_in_7 (by decide) (fun c2 => ?_) (fun c2 => ?_)
    · refine j_c hx hb dX6_in_14 ?_
      exact p_zret hx hb hr hlocks (by first | decide | exact b2i_or) (by first | rfl | omega | exact (b2i_t (by omega)).symm | exact (b2i_f (by omega)).symm | (simp only [b2i]; (repeat' split) <;> first | rfl | omega | (exfalso; omega))) dX6_in_15
    · refine j_c hx hb dX6_in_10 ?_
      refine lv_goto (tgt := 15) hx hb dX6_in_11 (by decide) ?_
      exact p_zret hx hb hr hlocks (by first | decide | exact b2i_or) (by first | rfl | omega | exact (b2i_t (by omega)).symm | exact (b2i_f (by omega)).symm | (simp only [b2i]; (repeat' split) <;> first | rfl | omega | (exfalso; omega))) dX6_in_15
set_option maxHeartbeats 4000000 in
set_option maxRecDepth 100000 in
theorem kX6_isVillager (l : Launch) (D : va_G) (cI cV : ClassId) (b : Nat → Nat) (s pa he : Nat → Int) (np ru : Int) (t : Nat → Int) (ty at_ rd : Int) (x : Int) (hM : MS s) (r_x : rg x) : PM l yX6_isVillager wsX6_isVillager 0 0 [.ref (b 0), .int (iI (x))] (modw cI b s pa he np ru t ty at_ rd) D cI cV (some (.int (iI (b2i (0 ≤ x ∧ x < s 0))))) := by
  refine PM.of (cc := cX6_isVillager) (maxL := 2) (ret := (some .boolean)) (by decide) rfl (Nat.le_of_ble_eq_true rfl) ?_
  intro p e s0 m below meth c ls hx hb hr hts hown hlocks hml hP hK hl
  have hown : s0.vm.findClass RX6 = some m.cls := hown
  have hin : ∀ w ∈ u_ws RX6 TX6 9, w ∈ wsX6_isVillager := by decide +kernel
  have hl : lv_has ls 2 [(0, .ref (b 0)), (1, .int (iI (x)))] := hl
  obtain ⟨hbs, h00, h01, h10, h11, h30, h31, h40, h41, h70, h71, h60, h61, hco, hcn⟩ := id hM
  have hb5 := hbs 5
  have hb2 := hbs 2
  refine lv_iload_n hx hb dX6_isVillager_0 rfl (lv_at hl 1 rfl) ?_
  refine j_zlt (tgt := 18) hx hb (by omega) dX6_isVillager_1 (by decide) (fun c1 => ?_) (fun c1 => ?_)
  · refine j_c hx hb dX6_isVillager_18 ?_
    exact p_zret hx hb hr hlocks (by first | decide | exact b2i_or) (by first | rfl | omega | exact (b2i_t (by omega)).symm | exact (b2i_f (by omega)).symm | (simp only [b2i]; (repeat' split) <;> first | rfl | omega | (exfalso; omega))) dX6_isVillager_19
  · refine lv_iload_n hx hb dX6_isVillager_4 rfl (lv_at hl 1 rfl) ?_
    refine lv_aload_n hx hb dX6_isVillager_5 rfl (lv_at hl 0 rfl) ?_
    refine Mg0 hx hb hts hin hown hK hP (by decide +kernel) dX6_isVillager_6 ?_
    refine j_c hx hb dX6_isVillager_9 ?_
    refine Ma0 hx hb hK hP (by omega) dX6_isVillager_10 ?_
    rw [show (0 : Int).toNat = 0 from by omega]
    have r1_21 : bd (s 0) := hbs _
    refine j_ige (tgt := 18) hx hb (by omega) (by omega) dX6_isVillager_11 (by decide) (fun c2 => ?_) (fun c2 => ?_)
    · refine j_c hx hb dX6_isVillager_18 ?_
      exact p_zret hx hb hr hlocks (by first | decide | exact b2i_or) (by first | rfl | omega | exact (b2i_t (by omega)).symm | exact (b2i_f (by omega)).symm | (simp only [b2i]; (repeat' split) <;> first | rfl | omega | (exfalso; omega))) dX6_isVillager_19
    · refine j_c hx hb dX6_isVillager_14 ?_
      refine lv_goto (tgt := 19) hx hb dX6_isVillager_15 (by decide) ?_
      exact p_zret hx hb hr hlocks (by first | decide | exact b2i_or) (by first | rfl | omega | exact (b2i_t (by omega)).symm | exact (b2i_f (by omega)).symm | (simp only [b2i]; (repeat' split) <;> first | rfl | omega | (exfalso; omega))) dX6_isVillager_19
set_option maxHeartbeats 4000000 in
set_option maxRecDepth 100000 in
theorem kX6_isSeat (l : Launch) (D : va_G) (cI cV : ClassId) (b : Nat → Nat) (s pa he : Nat → Int) (np ru : Int) (t : Nat → Int) (ty at_ rd : Int) (x : Int) (hM : MS s) (r_x : rg x) : PM l yX6_isSeat wsX6_isSeat 0 0 [.ref (b 0), .int (iI (x))] (modw cI b s pa he np ru t ty at_ rd) D cI cV (some (.int (iI (b2i (0 ≤ x ∧ x < s 1))))) := by
  refine PM.of (cc := cX6_isSeat) (maxL := 2) (ret := (some .boolean)) (by decide) rfl (Nat.le_of_ble_eq_true rfl) ?_
  intro p e s0 m below meth c ls hx hb hr hts hown hlocks hml hP hK hl
  have hown : s0.vm.findClass RX6 = some m.cls := hown
  have hin : ∀ w ∈ u_ws RX6 TX6 9, w ∈ wsX6_isSeat := by decide +kernel
  have hl : lv_has ls 2 [(0, .ref (b 0)), (1, .int (iI (x)))] := hl
  obtain ⟨hbs, h00, h01, h10, h11, h30, h31, h40, h41, h70, h71, h60, h61, hco, hcn⟩ := id hM
  have hb5 := hbs 5
  have hb2 := hbs 2
  refine lv_iload_n hx hb dX6_isSeat_0 rfl (lv_at hl 1 rfl) ?_
  refine j_zlt (tgt := 18) hx hb (by omega) dX6_isSeat_1 (by decide) (fun c1 => ?_) (fun c1 => ?_)
  · refine j_c hx hb dX6_isSeat_18 ?_
    exact p_zret hx hb hr hlocks (by first | decide | exact b2i_or) (by first | rfl | omega | exact (b2i_t (by omega)).symm | exact (b2i_f (by omega)).symm | (simp only [b2i]; (repeat' split) <;> first | rfl | omega | (exfalso; omega))) dX6_isSeat_19
  · refine lv_iload_n hx hb dX6_isSeat_4 rfl (lv_at hl 1 rfl) ?_
    refine lv_aload_n hx hb dX6_isSeat_5 rfl (lv_at hl 0 rfl) ?_
    refine Mg0 hx hb hts hin hown hK hP (by decide +kernel) dX6_isSeat_6 ?_
    refine j_c hx hb dX6_isSeat_9 ?_
    refine Ma0 hx hb hK hP (by omega) dX6_isSeat_10 ?_
    rw [show (1 : Int).toNat = 1 from by omega]
    have r1_21 : bd (s 1) := hbs _
    refine j_ige (tgt := 18) hx hb (by omega) (by omega) dX6_isSeat_11 (by decide) (fun c2 => ?_) (fun c2 => ?_)
    · refine j_c hx hb dX6_isSeat_18 ?_
      exact p_zret hx hb hr hlocks (by first | decide | exact b2i_or) (by first | rfl | omega | exact (b2i_t (by omega)).symm | exact (b2i_f (by omega)).symm | (simp only [b2i]; (repeat' split) <;> first | rfl | omega | (exfalso; omega))) dX6_isSeat_19
    · refine j_c hx hb dX6_isSeat_14 ?_
      refine lv_goto (tgt := 19) hx hb dX6_isSeat_15 (by decide) ?_
      exact p_zret hx hb hr hlocks (by first | decide | exact b2i_or) (by first | rfl | omega | exact (b2i_t (by omega)).symm | exact (b2i_f (by omega)).symm | (simp only [b2i]; (repeat' split) <;> first | rfl | omega | (exfalso; omega))) dX6_isSeat_19
set_option maxHeartbeats 4000000 in
set_option maxRecDepth 100000 in
theorem kX6_isEntry (l : Launch) (D : va_G) (cI cV : ClassId) (b : Nat → Nat) (s pa he : Nat → Int) (np ru : Int) (t : Nat → Int) (ty at_ rd : Int) (x : Int) (hM : MS s) (r_x : rg x) : PM l yX6_isEntry wsX6_isEntry 0 0 [.ref (b 0), .int (iI (x))] (modw cI b s pa he np ru t ty at_ rd) D cI cV (some (.int (iI (b2i (0 ≤ x ∧ x < s 3))))) := by
  refine PM.of (cc := cX6_isEntry) (maxL := 2) (ret := (some .boolean)) (by decide) rfl (Nat.le_of_ble_eq_true rfl) ?_
  intro p e s0 m below meth c ls hx hb hr hts hown hlocks hml hP hK hl
  have hown : s0.vm.findClass RX6 = some m.cls := hown
  have hin : ∀ w ∈ u_ws RX6 TX6 9, w ∈ wsX6_isEntry := by decide +kernel
  have hl : lv_has ls 2 [(0, .ref (b 0)), (1, .int (iI (x)))] := hl
  obtain ⟨hbs, h00, h01, h10, h11, h30, h31, h40, h41, h70, h71, h60, h61, hco, hcn⟩ := id hM
  have hb5 := hbs 5
  have hb2 := hbs 2
  refine lv_iload_n hx hb dX6_isEntry_0 rfl (lv_at hl 1 rfl) ?_
  refine j_zlt (tgt := 18) hx hb (by omega) dX6_isEntry_1 (by decide) (fun c1 => ?_) (fun c1 => ?_)
  · refine j_c hx hb dX6_isEntry_18 ?_
    exact p_zret hx hb hr hlocks (by first | decide | exact b2i_or) (by first | rfl | omega | exact (b2i_t (by omega)).symm | exact (b2i_f (by omega)).symm | (simp only [b2i]; (repeat' split) <;> first | rfl | omega | (exfalso; omega))) dX6_isEntry_19
  · refine lv_iload_n hx hb dX6_isEntry_4 rfl (lv_at hl 1 rfl) ?_
    refine lv_aload_n hx hb dX6_isEntry_5 rfl (lv_at hl 0 rfl) ?_
    refine Mg0 hx hb hts hin hown hK hP (by decide +kernel) dX6_isEntry_6 ?_
    refine j_c hx hb dX6_isEntry_9 ?_
    refine Ma0 hx hb hK hP (by omega) dX6_isEntry_10 ?_
    rw [show (3 : Int).toNat = 3 from by omega]
    have r1_21 : bd (s 3) := hbs _
    refine j_ige (tgt := 18) hx hb (by omega) (by omega) dX6_isEntry_11 (by decide) (fun c2 => ?_) (fun c2 => ?_)
    · refine j_c hx hb dX6_isEntry_18 ?_
      exact p_zret hx hb hr hlocks (by first | decide | exact b2i_or) (by first | rfl | omega | exact (b2i_t (by omega)).symm | exact (b2i_f (by omega)).symm | (simp only [b2i]; (repeat' split) <;> first | rfl | omega | (exfalso; omega))) dX6_isEntry_19
    · refine j_c hx hb dX6_isEntry_14 ?_
      refine lv_goto (tgt := 19) hx hb dX6_isEntry_15 (by decide) ?_
      exact p_zret hx hb hr hlocks (by first | decide | exact b2i_or) (by first | rfl | omega | exact (b2i_t (by omega)).symm | exact (b2i_f (by omega)).symm | (simp only [b2i]; (repeat' split) <;> first | rfl | omega | (exfalso; omega))) dX6_isEntry_19
set_option maxHeartbeats 4000000 in
set_option maxRecDepth 100000 in
theorem kX6_goesOn (l : Launch) (D : va_G) (cI cV : ClassId) (b : Nat → Nat) (s pa he : Nat → Int) (np ru : Int) (t : Nat → Int) (ty at_ rd : Int)  (hM : MS s) : PM l yX6_goesOn wsX6_goesOn 0 0 [.ref (b 0)] (modw cI b s pa he np ru t ty at_ rd) D cI cV (some (.int (iI (b2i (s 5 ≠ -9))))) := by
  refine PM.of (cc := cX6_goesOn) (maxL := 1) (ret := (some .boolean)) (by decide) rfl (Nat.le_of_ble_eq_true rfl) ?_
  intro p e s0 m below meth c ls hx hb hr hts hown hlocks hml hP hK hl
  have hown : s0.vm.findClass RX6 = some m.cls := hown
  have hin : ∀ w ∈ u_ws RX6 TX6 9, w ∈ wsX6_goesOn := by decide +kernel
  have hl : lv_has ls 1 [(0, .ref (b 0))] := hl
  obtain ⟨hbs, h00, h01, h10, h11, h30, h31, h40, h41, h70, h71, h60, h61, hco, hcn⟩ := id hM
  have hb5 := hbs 5
  have hb2 := hbs 2
  refine lv_aload_n hx hb dX6_goesOn_0 rfl (lv_at hl 0 rfl) ?_
  refine Mg0 hx hb hts hin hown hK hP (by decide +kernel) dX6_goesOn_1 ?_
  refine j_c hx hb dX6_goesOn_4 ?_
  refine Ma0 hx hb hK hP (by omega) dX6_goesOn_5 ?_
  rw [show (5 : Int).toNat = 5 from by omega]
  have r0_16 : bd (s 5) := hbs _
  refine j_bi hx hb dX6_goesOn_6 rfl ?_
  refine j_ieq (tgt := 15) hx hb (by omega) (by omega) dX6_goesOn_8 (by decide) (fun c1 => ?_) (fun c1 => ?_)
  · refine j_c hx hb dX6_goesOn_15 ?_
    exact p_zret hx hb hr hlocks (by first | decide | exact b2i_or) (by first | rfl | omega | exact (b2i_t (by omega)).symm | exact (b2i_f (by omega)).symm | (simp only [b2i]; (repeat' split) <;> first | rfl | omega | (exfalso; omega))) dX6_goesOn_16
  · refine j_c hx hb dX6_goesOn_11 ?_
    refine lv_goto (tgt := 16) hx hb dX6_goesOn_12 (by decide) ?_
    exact p_zret hx hb hr hlocks (by first | decide | exact b2i_or) (by first | rfl | omega | exact (b2i_t (by omega)).symm | exact (b2i_f (by omega)).symm | (simp only [b2i]; (repeat' split) <;> first | rfl | omega | (exfalso; omega))) dX6_goesOn_16
set_option maxHeartbeats 4000000 in
set_option maxRecDepth 100000 in
theorem kX6_isPresent (l : Launch) (D : va_G) (cI cV : ClassId) (b : Nat → Nat) (s pa he : Nat → Int) (np ru : Int) (t : Nat → Int) (ty at_ rd : Int) (x : Int) (hM : MS s) (h_x : 0 ≤ x ∧ x < 12) : PM l yX6_isPresent wsX6_isPresent 0 0 [.ref (b 0), .int (iI (x))] (modw cI b s pa he np ru t ty at_ rd) D cI cV (some (.int (iI (b2i (s (8 + x.toNat) = 1))))) := by
  refine PM.of (cc := cX6_isPresent) (maxL := 2) (ret := (some .boolean)) (by decide) rfl (Nat.le_of_ble_eq_true rfl) ?_
  intro p e s0 m below meth c ls hx hb hr hts hown hlocks hml hP hK hl
  have hown : s0.vm.findClass RX6 = some m.cls := hown
  have hin : ∀ w ∈ u_ws RX6 TX6 9, w ∈ wsX6_isPresent := by decide +kernel
  have hl : lv_has ls 2 [(0, .ref (b 0)), (1, .int (iI (x)))] := hl
  obtain ⟨hbs, h00, h01, h10, h11, h30, h31, h40, h41, h70, h71, h60, h61, hco, hcn⟩ := id hM
  have hb5 := hbs 5
  have hb2 := hbs 2
  refine lv_aload_n hx hb dX6_isPresent_0 rfl (lv_at hl 0 rfl) ?_
  refine Mg0 hx hb hts hin hown hK hP (by decide +kernel) dX6_isPresent_1 ?_
  refine j_bi hx hb dX6_isPresent_4 rfl ?_
  refine lv_iload_n hx hb dX6_isPresent_6 rfl (lv_at hl 1 rfl) ?_
  refine j_add hx hb dX6_isPresent_7 ?_
  refine Ma0 hx hb hK hP (by omega) dX6_isPresent_8 ?_
  rw [show (8 + x : Int).toNat = 8 + x.toNat from by omega]
  have r0_18 : bd (s (8 + x.toNat)) := hbs _
  refine j_c hx hb dX6_isPresent_9 ?_
  refine j_ine (tgt := 17) hx hb (by omega) (by omega) dX6_isPresent_10 (by decide) (fun c1 => ?_) (fun c1 => ?_)
  · refine j_c hx hb dX6_isPresent_17 ?_
    exact p_zret hx hb hr hlocks (by first | decide | exact b2i_or) (by first | rfl | omega | exact (b2i_t (by omega)).symm | exact (b2i_f (by omega)).symm | (simp only [b2i]; (repeat' split) <;> first | rfl | omega | (exfalso; omega))) dX6_isPresent_18
  · refine j_c hx hb dX6_isPresent_13 ?_
    refine lv_goto (tgt := 18) hx hb dX6_isPresent_14 (by decide) ?_
    exact p_zret hx hb hr hlocks (by first | decide | exact b2i_or) (by first | rfl | omega | exact (b2i_t (by omega)).symm | exact (b2i_f (by omega)).symm | (simp only [b2i]; (repeat' split) <;> first | rfl | omega | (exfalso; omega))) dX6_isPresent_18
set_option maxHeartbeats 4000000 in
set_option maxRecDepth 100000 in
theorem kX6_newer (l : Launch) (D : va_G) (cI cV : ClassId) (b : Nat → Nat) (s pa he : Nat → Int) (np ru : Int) (t : Nat → Int) (ty at_ rd : Int)  (hM : MS s) : PM l yX6_newer wsX6_newer 1 20 [.ref (b 0)] (modw cI b s pa he np ru t ty at_ rd) D cI cV (some (.int (iI (if s 5 ≠ -9 then (37 : Int) else 32)))) := by
  refine PM.of (cc := cX6_newer) (maxL := 1) (ret := (some .int)) (by decide) rfl (Nat.le_of_ble_eq_true rfl) ?_
  intro p e s0 m below meth c ls hx hb hr hts hown hlocks hml hP hK hl
  have hown : s0.vm.findClass RX6 = some m.cls := hown
  have hin : ∀ w ∈ u_ws RX6 TX6 9, w ∈ wsX6_newer := by decide +kernel
  have hl : lv_has ls 1 [(0, .ref (b 0))] := hl
  obtain ⟨hbs, h00, h01, h10, h11, h30, h31, h40, h41, h70, h71, h60, h61, hco, hcn⟩ := id hM
  have hb5 := hbs 5
  have hb2 := hbs 2
  refine lv_aload_n hx hb dX6_newer_0 rfl (lv_at hl 0 rfl) ?_
  refine p_callV (v := .int (iI (b2i (s 5 ≠ -9)))) (ci := 6) (n := 0) (As := []) (rest := []) ⟨hx, hb, hml, hown, hts⟩ hK (kX6_goesOn l D cI cV b s pa he np ru t ty at_ rd hM) hP rfl rfl gX6_newer_X6_goesOn rfl (by decide +kernel) ⟨Nat.le_of_ble_eq_true rfl, Nat.le_of_ble_eq_true rfl⟩ rfl hl.1 (Nat.le_of_ble_eq_true rfl) dX6_newer_1 ⟨Nat.zero_le _, Nat.zero_le _⟩ rfl ?_
  refine j_beq (tgt := 12) hx hb dX6_newer_4 (by decide) (fun c1 => ?_) (fun c1 => ?_)
  · refine j_bi hx hb dX6_newer_12 rfl ?_
    exact p_iret hx hb hr hlocks (by (repeat' split) <;> first | omega | rfl | (exfalso; omega)) dX6_newer_14
  · refine j_bi hx hb dX6_newer_7 rfl ?_
    refine lv_goto (tgt := 14) hx hb dX6_newer_9 (by decide) ?_
    exact p_iret hx hb hr hlocks (by (repeat' split) <;> first | omega | rfl | (exfalso; omega)) dX6_newer_14
set_option maxHeartbeats 4000000 in
set_option maxRecDepth 100000 in
theorem kX6_seatOf (l : Launch) (D : va_G) (cI cV : ClassId) (b : Nat → Nat) (s pa he : Nat → Int) (np ru : Int) (t : Nat → Int) (ty at_ rd : Int) (x : Int) (y : Int) (hM : MS s) (h_x : 32 ≤ x ∧ x ≤ 37) (r_y : rg y) : PM l yX6_seatOf wsX6_seatOf 0 0 [.ref (b 0), .int (iI (x)), .int (iI (y))] (modw cI b s pa he np ru t ty at_ rd) D cI cV (some (.int (iI (seatL (fun i => s (x.toNat + i)) y (s 1).toNat)))) := by
  refine PM.of (cc := cX6_seatOf) (maxL := 5) (ret := (some .int)) (by decide) rfl (Nat.le_of_ble_eq_true rfl) ?_
  intro p e s0 m below meth c ls hx hb hr hts hown hlocks hml hP hK hl
  have hown : s0.vm.findClass RX6 = some m.cls := hown
  have hin : ∀ w ∈ u_ws RX6 TX6 9, w ∈ wsX6_seatOf := by decide +kernel
  have hl : lv_has ls 5 [(0, .ref (b 0)), (1, .int (iI (x))), (2, .int (iI (y)))] := hl
  obtain ⟨hbs, h00, h01, h10, h11, h30, h31, h40, h41, h70, h71, h60, h61, hco, hcn⟩ := id hM
  have hb5 := hbs 5
  have hb2 := hbs 2
  refine j_bi hx hb dX6_seatOf_0 rfl ?_
  refine lv_istore_n (lv' := [(3, .int (iI ((-9)))), (0, .ref (b 0)), (1, .int (iI (x))), (2, .int (iI (y)))]) hx hb dX6_seatOf_2 rfl hl (by decide) rfl (fun ls hl => ?_)
  refine j_c hx hb dX6_seatOf_3 ?_
  refine lv_istore (lv' := [(4, .int (iI (0))), (3, .int (iI ((-9)))), (0, .ref (b 0)), (1, .int (iI (x))), (2, .int (iI (y)))]) hx hb dX6_seatOf_4 hl (by decide) rfl (fun ls hl => ?_)
  have LP6 : ∀ (fu : Nat) (j : Nat) (x4 x3 : Int), x4 = (j : Int) → x3 = seatL (fun i => s (x.toNat + i)) y j → ((j : Int) ≤ s 1) → (s 1).toNat - j < fu → ∀ ls : Array Slot, lv_has ls 5 [(4, .int (iI (x4))), (3, .int (iI (x3))), (0, .ref (b 0)), (1, .int (iI (x))), (2, .int (iI (y)))] → W p l e (headSpec wsX6_seatOf (rmK 0 0)).room s0 m ([.ref (b 0), .int (iI (x)), .int (iI (y))] : List Value).toArray below meth c s0.heap [] 0 0 (MQ below (pQ (some (.int (iI (seatL (fun i => s (x.toNat + i)) y (s 1).toNat))))) ([.ref (b 0), .int (iI (x)), .int (iI (y))] : List Value).toArray s0 0 0 (fun _ => False)) (F0 m 6 ls []) := by
    intro fu
    induction fu with
    | zero =>
      intros
      omega
    | succ fu ih =>
      intro j x4 x3 ex4 ex3 hinv hmeas  ls hl
      subst ex4
      subst ex3
      have hq := seatL_rg (el := fun i => s (x.toNat + i)) (v := y) j
      refine lv_iload hx hb dX6_seatOf_6 (lv_at hl 0 rfl) ?_
      refine lv_aload_n hx hb dX6_seatOf_8 rfl (lv_at hl 2 rfl) ?_
      refine Mg0 hx hb hts hin hown hK hP (by decide +kernel) dX6_seatOf_9 ?_
      refine j_c hx hb dX6_seatOf_12 ?_
      refine Ma0 hx hb hK hP (by omega) dX6_seatOf_13 ?_
      rw [show (1 : Int).toNat = 1 from by omega]
      have r0_32 : bd (s 1) := hbs _
      refine j_ige (tgt := 43) hx hb (by omega) (by omega) dX6_seatOf_14 (by decide) (fun c1 => ?_) (fun c1 => ?_)
      · refine lv_iload_n hx hb dX6_seatOf_43 rfl (lv_at hl 1 rfl) ?_
        exact p_iret hx hb hr hlocks (by rw [show (s 1).toNat = j from by omega]) dX6_seatOf_44
      · refine lv_aload_n hx hb dX6_seatOf_17 rfl (lv_at hl 2 rfl) ?_
        refine Mg0 hx hb hts hin hown hK hP (by decide +kernel) dX6_seatOf_18 ?_
        refine lv_iload_n hx hb dX6_seatOf_21 rfl (lv_at hl 3 rfl) ?_
        refine lv_iload hx hb dX6_seatOf_22 (lv_at hl 0 rfl) ?_
        refine j_add hx hb dX6_seatOf_24 ?_
        refine Ma0 hx hb hK hP (by omega) dX6_seatOf_25 ?_
        rw [show (x + (j : Int) : Int).toNat = x.toNat + j from by omega]
        have r1_43 : bd (s (x.toNat + j)) := hbs _
        refine lv_iload_n hx hb dX6_seatOf_26 rfl (lv_at hl 4 rfl) ?_
        refine j_ine (tgt := 35) hx hb (by omega) (by omega) dX6_seatOf_27 (by decide) (fun c2 => ?_) (fun c2 => ?_)
        · refine lv_iload_n hx hb dX6_seatOf_35 rfl (lv_at hl 1 rfl) ?_
          refine lv_istore_n (lv' := [(3, .int (iI (seatL (fun i => s (x.toNat + i)) y j))), (4, .int (iI ((j : Int)))), (0, .ref (b 0)), (1, .int (iI (x))), (2, .int (iI (y)))]) hx hb dX6_seatOf_36 rfl hl (by decide) rfl (fun ls hl => ?_)
          refine lv_iinc (v := iI ((j : Int) + 1)) (lv' := [(4, .int (iI ((j : Int) + 1))), (3, .int (iI (seatL (fun i => s (x.toNat + i)) y j))), (0, .ref (b 0)), (1, .int (iI (x))), (2, .int (iI (y)))]) hx hb dX6_seatOf_37 hl (k := 1) rfl (iI_add _ _) (by decide) rfl (fun ls hl => ?_)
          refine lv_goto (tgt := 6) hx hb dX6_seatOf_40 (by decide) ?_
          exact ih (j + 1) ((j : Int) + 1) (seatL (fun i => s (x.toNat + i)) y j) (by first | rfl | omega | (simp only [seatL]; first | rw [if_pos (by assumption)] | rw [if_neg (by assumption)])) (by first | rfl | omega | (simp only [seatL]; first | rw [if_pos (by assumption)] | rw [if_neg (by assumption)])) (by omega) (by omega) ls (lv_sub hl [0, 1, 2, 3, 4] rfl)
        · refine lv_iload hx hb dX6_seatOf_30 (lv_at hl 0 rfl) ?_
          refine lv_goto (tgt := 36) hx hb dX6_seatOf_32 (by decide) ?_
          refine lv_istore_n (lv' := [(3, .int (iI ((j : Int)))), (4, .int (iI ((j : Int)))), (0, .ref (b 0)), (1, .int (iI (x))), (2, .int (iI (y)))]) hx hb dX6_seatOf_36 rfl hl (by decide) rfl (fun ls hl => ?_)
          refine lv_iinc (v := iI ((j : Int) + 1)) (lv' := [(4, .int (iI ((j : Int) + 1))), (3, .int (iI ((j : Int)))), (0, .ref (b 0)), (1, .int (iI (x))), (2, .int (iI (y)))]) hx hb dX6_seatOf_37 hl (k := 1) rfl (iI_add _ _) (by decide) rfl (fun ls hl => ?_)
          refine lv_goto (tgt := 6) hx hb dX6_seatOf_40 (by decide) ?_
          exact ih (j + 1) ((j : Int) + 1) (j : Int) (by first | rfl | omega | (simp only [seatL]; first | rw [if_pos (by assumption)] | rw [if_neg (by assumption)])) (by first | rfl | omega | (simp only [seatL]; first | rw [if_pos (by assumption)] | rw [if_neg (by assumption)])) (by omega) (by omega) ls (lv_sub hl [0, 1, 2, 3, 4] rfl)
  exact LP6 (_) 0 0 (-9) (by first | rfl | omega) (by first | rfl | omega) (by omega) (by exact Nat.lt_succ_self _) ls (lv_sub hl [0, 1, 2, 3, 4] rfl)
set_option maxHeartbeats 4000000 in
set_option maxRecDepth 100000 in
theorem kX6_isElder (l : Launch) (D : va_G) (cI cV : ClassId) (b : Nat → Nat) (s pa he : Nat → Int) (np ru : Int) (t : Nat → Int) (ty at_ rd : Int) (x : Int) (hM : MS s) (r_x : rg x) : PM l yX6_isElder wsX6_isElder 2 40 [.ref (b 0), .int (iI (x))] (modw cI b s pa he np ru t ty at_ rd) D cI cV (some (.int (iI (b2i (seatL (fun i => s (32 + i)) (x) (s 1).toNat ≠ -9 ∨ seatL (fun i => s ((if s 5 ≠ -9 then (37 : Int) else 32).toNat + i)) (x) (s 1).toNat ≠ -9))))) := by
  refine PM.of (cc := cX6_isElder) (maxL := 2) (ret := (some .boolean)) (by decide) rfl (Nat.le_of_ble_eq_true rfl) ?_
  intro p e s0 m below meth c ls hx hb hr hts hown hlocks hml hP hK hl
  have hown : s0.vm.findClass RX6 = some m.cls := hown
  have hin : ∀ w ∈ u_ws RX6 TX6 9, w ∈ wsX6_isElder := by decide +kernel
  have hl : lv_has ls 2 [(0, .ref (b 0)), (1, .int (iI (x)))] := hl
  obtain ⟨hbs, h00, h01, h10, h11, h30, h31, h40, h41, h70, h71, h60, h61, hco, hcn⟩ := id hM
  have hb5 := hbs 5
  have hb2 := hbs 2
  refine lv_aload_n hx hb dX6_isElder_0 rfl (lv_at hl 0 rfl) ?_
  refine j_bi hx hb dX6_isElder_1 rfl ?_
  refine lv_iload_n hx hb dX6_isElder_3 rfl (lv_at hl 1 rfl) ?_
  refine p_callV (v := .int (iI (seatL (fun i => s (32 + i)) x (s 1).toNat))) (ci := 6) (n := 2) (As := [.int (iI (32)), .int (iI (x))]) (rest := []) ⟨hx, hb, hml, hown, hts⟩ hK (kX6_seatOf l D cI cV b s pa he np ru t ty at_ rd 32 x hM (by omega) (by omega)) hP rfl rfl gX6_isElder_X6_seatOf rfl (by decide +kernel) ⟨Nat.le_of_ble_eq_true rfl, Nat.le_of_ble_eq_true rfl⟩ rfl hl.1 (Nat.le_of_ble_eq_true rfl) dX6_isElder_4 ⟨Nat.zero_le _, Nat.zero_le _⟩ rfl ?_
  have fq := seatL_rg (el := (fun i => s (32 + i))) (v := x) (s 1).toNat
  refine j_bi hx hb dX6_isElder_7 rfl ?_
  refine j_ine (tgt := 26) hx hb (by omega) (by omega) dX6_isElder_9 (by decide) (fun c1 => ?_) (fun c1 => ?_)
  · refine j_c hx hb dX6_isElder_26 ?_
    refine lv_goto (tgt := 31) hx hb dX6_isElder_27 (by decide) ?_
    exact p_zret hx hb hr hlocks (by first | decide | exact b2i_or) (by first | rfl | omega | exact (b2i_t (by omega)).symm | exact (b2i_f (by omega)).symm | (simp only [b2i]; (repeat' split) <;> first | rfl | omega | (exfalso; omega))) dX6_isElder_31
  · refine lv_aload_n hx hb dX6_isElder_12 rfl (lv_at hl 0 rfl) ?_
    refine lv_aload_n hx hb dX6_isElder_13 rfl (lv_at hl 0 rfl) ?_
    refine p_callV (v := .int (iI (if s 5 ≠ -9 then (37 : Int) else 32))) (ci := 6) (n := 0) (As := []) (rest := [.ref (b 0)]) ⟨hx, hb, hml, hown, hts⟩ hK (kX6_newer l D cI cV b s pa he np ru t ty at_ rd hM) hP rfl rfl gX6_isElder_X6_newer rfl (by decide +kernel) ⟨Nat.le_of_ble_eq_true rfl, Nat.le_of_ble_eq_true rfl⟩ rfl hl.1 (Nat.le_of_ble_eq_true rfl) dX6_isElder_14 ⟨Nat.zero_le _, Nat.zero_le _⟩ rfl ?_
    refine lv_iload_n hx hb dX6_isElder_17 rfl (lv_at hl 1 rfl) ?_
    refine p_callV (v := .int (iI (seatL (fun i => s (((if s 5 ≠ -9 then (37 : Int) else 32).toNat) + i)) x (s 1).toNat))) (ci := 6) (n := 2) (As := [.int (iI (if s 5 ≠ -9 then (37 : Int) else 32)), .int (iI (x))]) (rest := []) ⟨hx, hb, hml, hown, hts⟩ hK (kX6_seatOf l D cI cV b s pa he np ru t ty at_ rd (if s 5 ≠ -9 then (37 : Int) else 32) x hM (by omega) (by omega)) hP rfl rfl gX6_isElder_X6_seatOf rfl (by decide +kernel) ⟨Nat.le_of_ble_eq_true rfl, Nat.le_of_ble_eq_true rfl⟩ rfl hl.1 (Nat.le_of_ble_eq_true rfl) dX6_isElder_18 ⟨Nat.zero_le _, Nat.zero_le _⟩ rfl ?_
    have fq := seatL_rg (el := (fun i => s (((if s 5 ≠ -9 then (37 : Int) else 32).toNat) + i))) (v := x) (s 1).toNat
    refine j_bi hx hb dX6_isElder_21 rfl ?_
    refine j_ieq (tgt := 30) hx hb (by omega) (by omega) dX6_isElder_23 (by decide) (fun c2 => ?_) (fun c2 => ?_)
    · refine j_c hx hb dX6_isElder_30 ?_
      exact p_zret hx hb hr hlocks (by first | decide | exact b2i_or) (by first | rfl | omega | exact (b2i_t (by omega)).symm | exact (b2i_f (by omega)).symm | (simp only [b2i]; (repeat' split) <;> first | rfl | omega | (exfalso; omega))) dX6_isElder_31
    · refine j_c hx hb dX6_isElder_26 ?_
      refine lv_goto (tgt := 31) hx hb dX6_isElder_27 (by decide) ?_
      exact p_zret hx hb hr hlocks (by first | decide | exact b2i_or) (by first | rfl | omega | exact (b2i_t (by omega)).symm | exact (b2i_f (by omega)).symm | (simp only [b2i]; (repeat' split) <;> first | rfl | omega | (exfalso; omega))) dX6_isElder_31
set_option maxHeartbeats 4000000 in
set_option maxRecDepth 100000 in
theorem kX6_having (l : Launch) (D : va_G) (cI cV : ClassId) (b : Nat → Nat) (s pa he : Nat → Int) (np ru : Int) (t : Nat → Int) (ty at_ rd : Int) (x : Int) (y : Int) (hM : MS s) (h_x : x = 32 ∨ x = 37) (r_y : rg y) : PM l yX6_having wsX6_having 0 0 [.ref (b 0), .int (iI (x)), .int (iI (y))] (modw cI b s pa he np ru t ty at_ rd) D cI cV (some (.int (iI (sm (fun i => b2i ((y) < s (20 + (s (x.toNat + i)).toNat))) (s 1).toNat)))) := by
  refine PM.of (cc := cX6_having) (maxL := 5) (ret := (some .int)) (by decide) rfl (Nat.le_of_ble_eq_true rfl) ?_
  intro p e s0 m below meth c ls hx hb hr hts hown hlocks hml hP hK hl
  have hown : s0.vm.findClass RX6 = some m.cls := hown
  have hin : ∀ w ∈ u_ws RX6 TX6 9, w ∈ wsX6_having := by decide +kernel
  have hl : lv_has ls 5 [(0, .ref (b 0)), (1, .int (iI (x))), (2, .int (iI (y)))] := hl
  obtain ⟨hbs, h00, h01, h10, h11, h30, h31, h40, h41, h70, h71, h60, h61, hco, hcn⟩ := id hM
  have hb5 := hbs 5
  have hb2 := hbs 2
  refine j_c hx hb dX6_having_0 ?_
  refine lv_istore_n (lv' := [(3, .int (iI (0))), (0, .ref (b 0)), (1, .int (iI (x))), (2, .int (iI (y)))]) hx hb dX6_having_1 rfl hl (by decide) rfl (fun ls hl => ?_)
  refine j_c hx hb dX6_having_2 ?_
  refine lv_istore (lv' := [(4, .int (iI (0))), (3, .int (iI (0))), (0, .ref (b 0)), (1, .int (iI (x))), (2, .int (iI (y)))]) hx hb dX6_having_3 hl (by decide) rfl (fun ls hl => ?_)
  have LP5 : ∀ (fu : Nat) (j : Nat) (x4 x3 : Int), x4 = (j : Int) → x3 = sm (fun i => b2i (y < s (20 + (s (x.toNat + i)).toNat))) j → ((j : Int) ≤ s 1) → (s 1).toNat - j < fu → ∀ ls : Array Slot, lv_has ls 5 [(4, .int (iI (x4))), (3, .int (iI (x3))), (0, .ref (b 0)), (1, .int (iI (x))), (2, .int (iI (y)))] → W p l e (headSpec wsX6_having (rmK 0 0)).room s0 m ([.ref (b 0), .int (iI (x)), .int (iI (y))] : List Value).toArray below meth c s0.heap [] 0 0 (MQ below (pQ (some (.int (iI (sm (fun i => b2i ((y) < s (20 + (s (x.toNat + i)).toNat))) (s 1).toNat))))) ([.ref (b 0), .int (iI (x)), .int (iI (y))] : List Value).toArray s0 0 0 (fun _ => False)) (F0 m 5 ls []) := by
    intro fu
    induction fu with
    | zero =>
      intros
      omega
    | succ fu ih =>
      intro j x4 x3 ex4 ex3 hinv hmeas  ls hl
      subst ex4
      subst ex3
      have hsm := sm_rg (f := fun i => b2i (y < s (20 + (s (x.toNat + i)).toNat))) (fun k => b2i_rg) j
      refine lv_iload hx hb dX6_having_5 (lv_at hl 0 rfl) ?_
      refine lv_aload_n hx hb dX6_having_7 rfl (lv_at hl 2 rfl) ?_
      refine Mg0 hx hb hts hin hown hK hP (by decide +kernel) dX6_having_8 ?_
      refine j_c hx hb dX6_having_11 ?_
      refine Ma0 hx hb hK hP (by omega) dX6_having_12 ?_
      rw [show (1 : Int).toNat = 1 from by omega]
      have r0_32 : bd (s 1) := hbs _
      refine j_ige (tgt := 51) hx hb (by omega) (by omega) dX6_having_13 (by decide) (fun c1 => ?_) (fun c1 => ?_)
      · refine lv_iload_n hx hb dX6_having_51 rfl (lv_at hl 1 rfl) ?_
        exact p_iret hx hb hr hlocks (by rw [show (s 1).toNat = j from by omega]) dX6_having_52
      · refine lv_iload_n hx hb dX6_having_16 rfl (lv_at hl 1 rfl) ?_
        refine lv_aload_n hx hb dX6_having_17 rfl (lv_at hl 2 rfl) ?_
        refine Mg0 hx hb hts hin hown hK hP (by decide +kernel) dX6_having_18 ?_
        refine j_bi hx hb dX6_having_21 rfl ?_
        refine lv_aload_n hx hb dX6_having_23 rfl (lv_at hl 2 rfl) ?_
        refine Mg0 hx hb hts hin hown hK hP (by decide +kernel) dX6_having_24 ?_
        refine lv_iload_n hx hb dX6_having_27 rfl (lv_at hl 3 rfl) ?_
        refine lv_iload hx hb dX6_having_28 (lv_at hl 0 rfl) ?_
        refine j_add hx hb dX6_having_30 ?_
        refine Ma0 hx hb hK hP (by omega) dX6_having_31 ?_
        rw [show (x + (j : Int) : Int).toNat = x.toNat + j from by omega]
        have r1_47 : bd (s (x.toNat + j)) := hbs _
        refine j_add hx hb dX6_having_32 ?_
        have hcr : 0 ≤ s (x.toNat + j) ∧ s (x.toNat + j) < 12 := by rcases h_x with h | h <;> subst h <;> first | exact hco j (by omega) | exact hcn j (by omega)
        refine Ma0 hx hb hK hP (by omega) dX6_having_33 ?_
        rw [show (20 + (s (x.toNat + j)) : Int).toNat = 20 + ((s (x.toNat + j)).toNat) from by omega]
        have r1_52 : bd (s (20 + ((s (x.toNat + j)).toNat))) := hbs _
        refine lv_iload_n hx hb dX6_having_34 rfl (lv_at hl 4 rfl) ?_
        refine j_ile (tgt := 42) hx hb (by omega) (by omega) dX6_having_35 (by decide) (fun c2 => ?_) (fun c2 => ?_)
        · refine j_c hx hb dX6_having_42 ?_
          refine j_add hx hb dX6_having_43 ?_
          refine lv_istore_n (lv' := [(3, .int (iI ((sm (fun i => b2i (y < s (20 + (s (x.toNat + i)).toNat))) j) + 0))), (4, .int (iI ((j : Int)))), (0, .ref (b 0)), (1, .int (iI (x))), (2, .int (iI (y)))]) hx hb dX6_having_44 rfl hl (by decide) rfl (fun ls hl => ?_)
          refine lv_iinc (v := iI ((j : Int) + 1)) (lv' := [(4, .int (iI ((j : Int) + 1))), (3, .int (iI ((sm (fun i => b2i (y < s (20 + (s (x.toNat + i)).toNat))) j) + 0))), (0, .ref (b 0)), (1, .int (iI (x))), (2, .int (iI (y)))]) hx hb dX6_having_45 hl (k := 1) rfl (iI_add _ _) (by decide) rfl (fun ls hl => ?_)
          refine lv_goto (tgt := 5) hx hb dX6_having_48 (by decide) ?_
          exact ih (j + 1) ((j : Int) + 1) ((sm (fun i => b2i (y < s (20 + (s (x.toNat + i)).toNat))) j) + 0) (by first | rfl | omega | (simp only [sm, b2i]; (repeat' split) <;> first | rfl | omega | (exfalso; omega) | (exfalso; simp_all))) (by first | rfl | omega | (simp only [sm, b2i]; (repeat' split) <;> first | rfl | omega | (exfalso; omega) | (exfalso; simp_all))) (by omega) (by omega) ls (lv_sub hl [0, 1, 2, 3, 4] rfl)
        · refine j_c hx hb dX6_having_38 ?_
          refine lv_goto (tgt := 43) hx hb dX6_having_39 (by decide) ?_
          refine j_add hx hb dX6_having_43 ?_
          refine lv_istore_n (lv' := [(3, .int (iI ((sm (fun i => b2i (y < s (20 + (s (x.toNat + i)).toNat))) j) + 1))), (4, .int (iI ((j : Int)))), (0, .ref (b 0)), (1, .int (iI (x))), (2, .int (iI (y)))]) hx hb dX6_having_44 rfl hl (by decide) rfl (fun ls hl => ?_)
          refine lv_iinc (v := iI ((j : Int) + 1)) (lv' := [(4, .int (iI ((j : Int) + 1))), (3, .int (iI ((sm (fun i => b2i (y < s (20 + (s (x.toNat + i)).toNat))) j) + 1))), (0, .ref (b 0)), (1, .int (iI (x))), (2, .int (iI (y)))]) hx hb dX6_having_45 hl (k := 1) rfl (iI_add _ _) (by decide) rfl (fun ls hl => ?_)
          refine lv_goto (tgt := 5) hx hb dX6_having_48 (by decide) ?_
          exact ih (j + 1) ((j : Int) + 1) ((sm (fun i => b2i (y < s (20 + (s (x.toNat + i)).toNat))) j) + 1) (by first | rfl | omega | (simp only [sm, b2i]; (repeat' split) <;> first | rfl | omega | (exfalso; omega) | (exfalso; simp_all))) (by first | rfl | omega | (simp only [sm, b2i]; (repeat' split) <;> first | rfl | omega | (exfalso; omega) | (exfalso; simp_all))) (by omega) (by omega) ls (lv_sub hl [0, 1, 2, 3, 4] rfl)
  exact LP5 (_) 0 0 0 (by first | rfl | omega) (by first | rfl | omega) (by omega) (by exact Nat.lt_succ_self _) ls (lv_sub hl [0, 1, 2, 3, 4] rfl)
set_option maxHeartbeats 4000000 in
set_option maxRecDepth 100000 in
theorem kX6_isMajor (l : Launch) (D : va_G) (cI cV : ClassId) (b : Nat → Nat) (s pa he : Nat → Int) (np ru : Int) (t : Nat → Int) (ty at_ rd : Int) (x : Int) (hM : MS s) (h_x : bd x) : PM l yX6_isMajor wsX6_isMajor 0 0 [.ref (b 0), .int (iI (x))] (modw cI b s pa he np ru t ty at_ rd) D cI cV (some (.int (iI (b2i (s 1 < 2 * x))))) := by
  refine PM.of (cc := cX6_isMajor) (maxL := 2) (ret := (some .boolean)) (by decide) rfl (Nat.le_of_ble_eq_true rfl) ?_
  intro p e s0 m below meth c ls hx hb hr hts hown hlocks hml hP hK hl
  have hown : s0.vm.findClass RX6 = some m.cls := hown
  have hin : ∀ w ∈ u_ws RX6 TX6 9, w ∈ wsX6_isMajor := by decide +kernel
  have hl : lv_has ls 2 [(0, .ref (b 0)), (1, .int (iI (x)))] := hl
  obtain ⟨hbs, h00, h01, h10, h11, h30, h31, h40, h41, h70, h71, h60, h61, hco, hcn⟩ := id hM
  have hb5 := hbs 5
  have hb2 := hbs 2
  refine j_c hx hb dX6_isMajor_0 ?_
  refine lv_iload_n hx hb dX6_isMajor_1 rfl (lv_at hl 1 rfl) ?_
  refine j_mul hx hb dX6_isMajor_2 ?_
  refine lv_aload_n hx hb dX6_isMajor_3 rfl (lv_at hl 0 rfl) ?_
  refine Mg0 hx hb hts hin hown hK hP (by decide +kernel) dX6_isMajor_4 ?_
  refine j_c hx hb dX6_isMajor_7 ?_
  refine Ma0 hx hb hK hP (by omega) dX6_isMajor_8 ?_
  rw [show (1 : Int).toNat = 1 from by omega]
  have r0_19 : bd (s 1) := hbs _
  refine j_ile (tgt := 16) hx hb (by omega) (by omega) dX6_isMajor_9 (by decide) (fun c1 => ?_) (fun c1 => ?_)
  · refine j_c hx hb dX6_isMajor_16 ?_
    exact p_zret hx hb hr hlocks (by first | decide | exact b2i_or) (by first | rfl | omega | exact (b2i_t (by omega)).symm | exact (b2i_f (by omega)).symm | (simp only [b2i]; (repeat' split) <;> first | rfl | omega | (exfalso; omega))) dX6_isMajor_17
  · refine j_c hx hb dX6_isMajor_12 ?_
    refine lv_goto (tgt := 17) hx hb dX6_isMajor_13 (by decide) ?_
    exact p_zret hx hb hr hlocks (by first | decide | exact b2i_or) (by first | rfl | omega | exact (b2i_t (by omega)).symm | exact (b2i_f (by omega)).symm | (simp only [b2i]; (repeat' split) <;> first | rfl | omega | (exfalso; omega))) dX6_isMajor_17
set_option maxHeartbeats 4000000 in
set_option maxRecDepth 100000 in
theorem kX6_present (l : Launch) (D : va_G) (cI cV : ClassId) (b : Nat → Nat) (s pa he : Nat → Int) (np ru : Int) (t : Nat → Int) (ty at_ rd : Int)  (hM : MS s) : PM l yX6_present wsX6_present 0 0 [.ref (b 0)] (modw cI b s pa he np ru t ty at_ rd) D cI cV (some (.int (iI (sm (fun i => s (8 + i)) (s 0).toNat)))) := by
  refine PM.of (cc := cX6_present) (maxL := 3) (ret := (some .int)) (by decide) rfl (Nat.le_of_ble_eq_true rfl) ?_
  intro p e s0 m below meth c ls hx hb hr hts hown hlocks hml hP hK hl
  have hown : s0.vm.findClass RX6 = some m.cls := hown
  have hin : ∀ w ∈ u_ws RX6 TX6 9, w ∈ wsX6_present := by decide +kernel
  have hl : lv_has ls 3 [(0, .ref (b 0))] := hl
  obtain ⟨hbs, h00, h01, h10, h11, h30, h31, h40, h41, h70, h71, h60, h61, hco, hcn⟩ := id hM
  have hb5 := hbs 5
  have hb2 := hbs 2
  refine j_c hx hb dX6_present_0 ?_
  refine lv_istore_n (lv' := [(1, .int (iI (0))), (0, .ref (b 0))]) hx hb dX6_present_1 rfl hl (by decide) rfl (fun ls hl => ?_)
  refine j_c hx hb dX6_present_2 ?_
  refine lv_istore_n (lv' := [(2, .int (iI (0))), (1, .int (iI (0))), (0, .ref (b 0))]) hx hb dX6_present_3 rfl hl (by decide) rfl (fun ls hl => ?_)
  have LP4 : ∀ (fu : Nat) (j : Nat) (x2 x1 : Int), x2 = (j : Int) → x1 = sm (fun i => s (8 + i)) j → ((j : Int) ≤ s 0) → (s 0).toNat - j < fu → ∀ ls : Array Slot, lv_has ls 3 [(2, .int (iI (x2))), (1, .int (iI (x1))), (0, .ref (b 0))] → W p l e (headSpec wsX6_present (rmK 0 0)).room s0 m ([.ref (b 0)] : List Value).toArray below meth c s0.heap [] 0 0 (MQ below (pQ (some (.int (iI (sm (fun i => s (8 + i)) (s 0).toNat))))) ([.ref (b 0)] : List Value).toArray s0 0 0 (fun _ => False)) (F0 m 4 ls []) := by
    intro fu
    induction fu with
    | zero =>
      intros
      omega
    | succ fu ih =>
      intro j x2 x1 ex2 ex1 hinv hmeas  ls hl
      subst ex2
      subst ex1
      refine lv_iload_n hx hb dX6_present_4 rfl (lv_at hl 0 rfl) ?_
      refine lv_aload_n hx hb dX6_present_5 rfl (lv_at hl 2 rfl) ?_
      refine Mg0 hx hb hts hin hown hK hP (by decide +kernel) dX6_present_6 ?_
      refine j_c hx hb dX6_present_9 ?_
      refine Ma0 hx hb hK hP (by omega) dX6_present_10 ?_
      rw [show (0 : Int).toNat = 0 from by omega]
      have r0_31 : bd (s 0) := hbs _
      refine j_ige (tgt := 32) hx hb (by omega) (by omega) dX6_present_11 (by decide) (fun c1 => ?_) (fun c1 => ?_)
      · refine lv_iload_n hx hb dX6_present_32 rfl (lv_at hl 1 rfl) ?_
        exact p_iret hx hb hr hlocks (by rw [show (s 0).toNat = j from by omega]) dX6_present_33
      · refine lv_iload_n hx hb dX6_present_14 rfl (lv_at hl 1 rfl) ?_
        refine lv_aload_n hx hb dX6_present_15 rfl (lv_at hl 2 rfl) ?_
        refine Mg0 hx hb hts hin hown hK hP (by decide +kernel) dX6_present_16 ?_
        refine j_bi hx hb dX6_present_19 rfl ?_
        refine lv_iload_n hx hb dX6_present_21 rfl (lv_at hl 0 rfl) ?_
        refine j_add hx hb dX6_present_22 ?_
        refine Ma0 hx hb hK hP (by omega) dX6_present_23 ?_
        rw [show (8 + (j : Int) : Int).toNat = 8 + j from by omega]
        have r1_43 : bd (s (8 + j)) := hbs _
        refine j_add hx hb dX6_present_24 ?_
        refine lv_istore_n (lv' := [(1, .int (iI ((sm (fun i => s (8 + i)) j) + (s (8 + j))))), (2, .int (iI ((j : Int)))), (0, .ref (b 0))]) hx hb dX6_present_25 rfl hl (by decide) rfl (fun ls hl => ?_)
        refine lv_iinc (v := iI ((j : Int) + 1)) (lv' := [(2, .int (iI ((j : Int) + 1))), (1, .int (iI ((sm (fun i => s (8 + i)) j) + (s (8 + j))))), (0, .ref (b 0))]) hx hb dX6_present_26 hl (k := 1) rfl (iI_add _ _) (by decide) rfl (fun ls hl => ?_)
        refine lv_goto (tgt := 4) hx hb dX6_present_29 (by decide) ?_
        exact ih (j + 1) ((j : Int) + 1) ((sm (fun i => s (8 + i)) j) + (s (8 + j))) (by first | rfl | omega | (simp only [sm, b2i]; (repeat' split) <;> first | rfl | omega | (exfalso; omega) | (exfalso; simp_all))) (by first | rfl | omega | (simp only [sm, b2i]; (repeat' split) <;> first | rfl | omega | (exfalso; omega) | (exfalso; simp_all))) (by omega) (by omega) ls (lv_sub hl [0, 1, 2] rfl)
  exact LP4 (_) 0 0 0 (by first | rfl | omega) (by first | rfl | omega) (by omega) (by exact Nat.lt_succ_self _) ls (lv_sub hl [0, 1, 2] rfl)
set_option maxHeartbeats 4000000 in
set_option maxRecDepth 100000 in
theorem kX6_candidates (l : Launch) (D : va_G) (cI cV : ClassId) (b : Nat → Nat) (s pa he : Nat → Int) (np ru : Int) (t : Nat → Int) (ty at_ rd : Int)  (hM : MS s) : PM l yX6_candidates wsX6_candidates 1 24 [.ref (b 0)] (modw cI b s pa he np ru t ty at_ rd) D cI cV (some (.int (iI (sm (fun i => b2i (seatL (fun i => s (32 + i)) (i : Int) (s 1).toNat = -9)) (s 0).toNat)))) := by
  refine PM.of (cc := cX6_candidates) (maxL := 3) (ret := (some .int)) (by decide) rfl (Nat.le_of_ble_eq_true rfl) ?_
  intro p e s0 m below meth c ls hx hb hr hts hown hlocks hml hP hK hl
  have hown : s0.vm.findClass RX6 = some m.cls := hown
  have hin : ∀ w ∈ u_ws RX6 TX6 9, w ∈ wsX6_candidates := by decide +kernel
  have hl : lv_has ls 3 [(0, .ref (b 0))] := hl
  obtain ⟨hbs, h00, h01, h10, h11, h30, h31, h40, h41, h70, h71, h60, h61, hco, hcn⟩ := id hM
  have hb5 := hbs 5
  have hb2 := hbs 2
  refine j_c hx hb dX6_candidates_0 ?_
  refine lv_istore_n (lv' := [(1, .int (iI (0))), (0, .ref (b 0))]) hx hb dX6_candidates_1 rfl hl (by decide) rfl (fun ls hl => ?_)
  refine j_c hx hb dX6_candidates_2 ?_
  refine lv_istore_n (lv' := [(2, .int (iI (0))), (1, .int (iI (0))), (0, .ref (b 0))]) hx hb dX6_candidates_3 rfl hl (by decide) rfl (fun ls hl => ?_)
  have LP4 : ∀ (fu : Nat) (j : Nat) (x2 x1 : Int), x2 = (j : Int) → x1 = sm (fun i => b2i (seatL (fun i => s (32 + i)) (i : Int) (s 1).toNat = -9)) j → ((j : Int) ≤ s 0) → (s 0).toNat - j < fu → ∀ ls : Array Slot, lv_has ls 3 [(2, .int (iI (x2))), (1, .int (iI (x1))), (0, .ref (b 0))] → W p l e (headSpec wsX6_candidates (rmK 1 24)).room s0 m ([.ref (b 0)] : List Value).toArray below meth c s0.heap [] 0 0 (MQ below (pQ (some (.int (iI (sm (fun i => b2i (seatL (fun i => s (32 + i)) (i : Int) (s 1).toNat = -9)) (s 0).toNat))))) ([.ref (b 0)] : List Value).toArray s0 0 0 (fun _ => False)) (F0 m 4 ls []) := by
    intro fu
    induction fu with
    | zero =>
      intros
      omega
    | succ fu ih =>
      intro j x2 x1 ex2 ex1 hinv hmeas  ls hl
      subst ex2
      subst ex1
      have hsm := sm_rg (f := fun i => b2i (seatL (fun i => s (32 + i)) (i : Int) (s 1).toNat = -9)) (fun k => b2i_rg) j
      refine lv_iload_n hx hb dX6_candidates_4 rfl (lv_at hl 0 rfl) ?_
      refine lv_aload_n hx hb dX6_candidates_5 rfl (lv_at hl 2 rfl) ?_
      refine Mg0 hx hb hts hin hown hK hP (by decide +kernel) dX6_candidates_6 ?_
      refine j_c hx hb dX6_candidates_9 ?_
      refine Ma0 hx hb hK hP (by omega) dX6_candidates_10 ?_
      rw [show (0 : Int).toNat = 0 from by omega]
      have r0_32 : bd (s 0) := hbs _
      refine j_ige (tgt := 40) hx hb (by omega) (by omega) dX6_candidates_11 (by decide) (fun c1 => ?_) (fun c1 => ?_)
      · refine lv_iload_n hx hb dX6_candidates_40 rfl (lv_at hl 1 rfl) ?_
        exact p_iret hx hb hr hlocks (by rw [show (s 0).toNat = j from by omega]) dX6_candidates_41
      · refine lv_iload_n hx hb dX6_candidates_14 rfl (lv_at hl 1 rfl) ?_
        refine lv_aload_n hx hb dX6_candidates_15 rfl (lv_at hl 2 rfl) ?_
        refine j_bi hx hb dX6_candidates_16 rfl ?_
        refine lv_iload_n hx hb dX6_candidates_18 rfl (lv_at hl 0 rfl) ?_
        refine p_callV (v := .int (iI (seatL (fun i => s (32 + i)) (j : Int) (s 1).toNat))) (ci := 6) (n := 2) (As := [.int (iI (32)), .int (iI ((j : Int)))]) (rest := [.int (iI (sm (fun i => b2i (seatL (fun i => s (32 + i)) (i : Int) (s 1).toNat = -9)) j))]) ⟨hx, hb, hml, hown, hts⟩ hK (kX6_seatOf l D cI cV b s pa he np ru t ty at_ rd 32 (j : Int) hM (by omega) (by omega)) hP rfl rfl gX6_candidates_X6_seatOf rfl (by decide +kernel) ⟨Nat.le_of_ble_eq_true rfl, Nat.le_of_ble_eq_true rfl⟩ rfl hl.1 (Nat.le_of_ble_eq_true rfl) dX6_candidates_19 ⟨Nat.zero_le _, Nat.zero_le _⟩ rfl ?_
        have fq := seatL_rg (el := (fun i => s (32 + i))) (v := (j : Int)) (s 1).toNat
        refine j_bi hx hb dX6_candidates_22 rfl ?_
        refine j_ine (tgt := 31) hx hb (by omega) (by omega) dX6_candidates_24 (by decide) (fun c2 => ?_) (fun c2 => ?_)
        · refine j_c hx hb dX6_candidates_31 ?_
          refine j_add hx hb dX6_candidates_32 ?_
          refine lv_istore_n (lv' := [(1, .int (iI ((sm (fun i => b2i (seatL (fun i => s (32 + i)) (i : Int) (s 1).toNat = -9)) j) + 0))), (2, .int (iI ((j : Int)))), (0, .ref (b 0))]) hx hb dX6_candidates_33 rfl hl (by decide) rfl (fun ls hl => ?_)
          refine lv_iinc (v := iI ((j : Int) + 1)) (lv' := [(2, .int (iI ((j : Int) + 1))), (1, .int (iI ((sm (fun i => b2i (seatL (fun i => s (32 + i)) (i : Int) (s 1).toNat = -9)) j) + 0))), (0, .ref (b 0))]) hx hb dX6_candidates_34 hl (k := 1) rfl (iI_add _ _) (by decide) rfl (fun ls hl => ?_)
          refine lv_goto (tgt := 4) hx hb dX6_candidates_37 (by decide) ?_
          exact ih (j + 1) ((j : Int) + 1) ((sm (fun i => b2i (seatL (fun i => s (32 + i)) (i : Int) (s 1).toNat = -9)) j) + 0) (by first | rfl | omega | (simp only [sm, b2i]; (repeat' split) <;> first | rfl | omega | (exfalso; omega) | (exfalso; simp_all))) (by first | rfl | omega | (simp only [sm, b2i]; (repeat' split) <;> first | rfl | omega | (exfalso; omega) | (exfalso; simp_all))) (by omega) (by omega) ls (lv_sub hl [0, 1, 2] rfl)
        · refine j_c hx hb dX6_candidates_27 ?_
          refine lv_goto (tgt := 32) hx hb dX6_candidates_28 (by decide) ?_
          refine j_add hx hb dX6_candidates_32 ?_
          refine lv_istore_n (lv' := [(1, .int (iI ((sm (fun i => b2i (seatL (fun i => s (32 + i)) (i : Int) (s 1).toNat = -9)) j) + 1))), (2, .int (iI ((j : Int)))), (0, .ref (b 0))]) hx hb dX6_candidates_33 rfl hl (by decide) rfl (fun ls hl => ?_)
          refine lv_iinc (v := iI ((j : Int) + 1)) (lv' := [(2, .int (iI ((j : Int) + 1))), (1, .int (iI ((sm (fun i => b2i (seatL (fun i => s (32 + i)) (i : Int) (s 1).toNat = -9)) j) + 1))), (0, .ref (b 0))]) hx hb dX6_candidates_34 hl (k := 1) rfl (iI_add _ _) (by decide) rfl (fun ls hl => ?_)
          refine lv_goto (tgt := 4) hx hb dX6_candidates_37 (by decide) ?_
          exact ih (j + 1) ((j : Int) + 1) ((sm (fun i => b2i (seatL (fun i => s (32 + i)) (i : Int) (s 1).toNat = -9)) j) + 1) (by first | rfl | omega | (simp only [sm, b2i]; (repeat' split) <;> first | rfl | omega | (exfalso; omega) | (exfalso; simp_all))) (by first | rfl | omega | (simp only [sm, b2i]; (repeat' split) <;> first | rfl | omega | (exfalso; omega) | (exfalso; simp_all))) (by omega) (by omega) ls (lv_sub hl [0, 1, 2] rfl)
  exact LP4 (_) 0 0 0 (by first | rfl | omega) (by first | rfl | omega) (by omega) (by exact Nat.lt_succ_self _) ls (lv_sub hl [0, 1, 2] rfl)
