/-! the law itself: its script, its rows made, its start -/
theorem iI_nat (n : Nat) : iI (n : Int) = Int32.ofNat n := by
  apply Int32.toBitVec_inj.mp
  show BitVec.ofInt 32 (n : Int) = BitVec.ofNat 32 n
  exact BitVec.ofInt_natCast ..
def cellV (L : Nat) (xs : Nat → Int32) (k : Int) : Int := (if k < (L : Int) then xs k.toNat else iI (40503 * (k + 3))).toInt
theorem cellV_rg {L : Nat} {xs : Nat → Int32} {k : Int} : rg (cellV L xs k) := rg_of _
theorem kL_cell (l : Launch) {b L : Nat} {xs : Nat → Int32} (hL : L ≤ 260) {k : Int} (hk : 0 ≤ k ∧ k < 1000) : Met l yL_cell wsL_cell (rmK 0 0) (va_Pc [.ref b, .int (iI k)] (fun U => va_X b L xs U U.heap ∧ b < U.heap.size)) (pQ (some (.int (iI (cellV L xs k))))) 0 0 (fun _ => False) := by
  refine Met.ofW (cc := cL_cell) (maxL := 2) (ret := some .int) (by decide) rfl ?_
  intro p e s0 mi args below meth c s₁ B hml hv
  obtain ⟨rfl, hX, hbl⟩ := hv
  rw [lg_entry_eq]
  have hx := B.exec
  have hb := B.bytes
  have hr := B.returns
  have hts := atoms_spec (ws := wsL_cell) B.pre
  have hown : s0.vm.findClass RL = some mi.cls := findClass_of_methodNamed B.named
  have hlocks := B.notSynchronized
  have hbA : ¬ (fun _ : Nat => False) b := fun h => h
  have body : ∀ ls : Array Slot, lv_has ls 2 [(0, .ref b), (1, .int (iI k))] → W p l e (headSpec wsL_cell (rmK 0 0)).room s0 mi ([.ref b, .int (iI k)] : List Value).toArray below meth c s0.heap [] 0 0 (MQ below (pQ (some (.int (iI (cellV L xs k))))) ([.ref b, .int (iI k)] : List Value).toArray s0 0 0 (fun _ => False)) (F0 mi 0 ls []) := by
    intro ls hl
    refine lv_iload_n hx hb dL_cell_0 rfl (lv_at hl 1 rfl) ?_
    refine lv_aload_n hx hb dL_cell_1 rfl (lv_at hl 0 rfl) ?_
    refine va_slen (A := fun _ => False) hx hb hX hbl hbA va_S.rf dL_cell_2 ?_
    rw [← iI_nat]
    refine j_ige (tgt := 12) hx hb ⟨by omega, by omega⟩ ⟨by omega, by omega⟩ dL_cell_3 (by decide) (fun c1 => ?_) (fun c1 => ?_)
    · refine j_ldc (n := 40503) hx hb hown (hts (.constant RL 7 40503) (by decide +kernel)) rfl dL_cell_12 ?_
      refine lv_iload_n hx hb dL_cell_14 rfl (lv_at hl 1 rfl) ?_
      refine j_c hx hb dL_cell_15 ?_
      refine j_add hx hb dL_cell_16 ?_
      refine j_mul hx hb dL_cell_17 ?_
      exact p_iret hx hb hr hlocks (by unfold cellV; rw [if_neg (by omega), iI_toInt ⟨by omega, by omega⟩]) dL_cell_18
    · refine lv_aload_n hx hb dL_cell_6 rfl (lv_at hl 0 rfl) ?_
      refine lv_iload_n hx hb dL_cell_7 rfl (lv_at hl 1 rfl) ?_
      refine va_sld (A := fun _ => False) hx hb hX hbl hbA va_S.rf (iI_in (n := L) ⟨by omega, by omega⟩ (by omega)) dL_cell_8 ?_
      rw [iI_clamp ⟨by omega, by omega⟩]
      refine j_any hx hb ?_
      refine lv_goto (tgt := 18) hx hb dL_cell_9 (by decide) ?_
      exact p_iret hx hb hr hlocks (by unfold cellV; rw [if_pos c1]) dL_cell_18
  exact body _ (lv_entry [.ref b, .int (iI k)] (Nat.le_of_ble_eq_true rfl))
theorem xc_blind {av : List Value} {b L : Nat} {xs : Nat → Int32} : FrameBlind (va_Pc av (fun U => va_X b L xs U U.heap ∧ b < U.heap.size)) := fun a U g mk q => by
  obtain ⟨q0, qX, qb⟩ := q
  exact ⟨q0, va_X.moved (u := U) (U := U.calling g mk a) (Vm.Alike.refl U.vm) qX, qb⟩
section CO
variable {p : Program} {l : Launch} {e : Env} {R : Room} {s0 : State} {m : MethodId} {args : Array Value} {below : List Frame} {meth : Method} {c : Code} {H H0 : Heap} {locs : List Loc} {cells slots : Nat} {Q : State → Prop} {D : va_G} {cI cV cL : ClassId} {Ts : List Cond} {A : Nat → Prop}
variable {cc : ByteArray} {pc : Nat} {ls : Array Slot} {rest : List Value}
theorem x_callS {y : MethodName} {wy wy' : List Cond} {f k n index nL maxL : Nat} {As st : List Value} {v : Value} {bytes : ByteArray} {ret : Option FieldType} {own : String} {b_ L_ : Nat} {xs_ : Nat → Int32} (S : CallFix p m c cc nL s0 args Ts own) (hM : Met l y wy (rmK f k) (va_Pc As (fun U => va_X b_ L_ xs_ U U.heap ∧ b_ < U.heap.size)) (pQ (some v)) 0 0 (fun _ => False)) (hX : va_X b_ L_ xs_ s0 H) (hbl : b_ < H.size)
    (hG : GoodIn Ts (va_wsS own index y wy)) (hw : wy = .code y bytes maxL ret :: wy') (hd : y.cls ≠ "java/lang/invoke/MethodHandle" ∧ y.cls ≠ "java/lang/invoke/VarHandle" ∧ (parseMethodDescriptor y.desc).map (fun d => d.parameters.length) = some n) (hR : f + 1 ≤ R.frames ∧ 8 + (maxL + 11) + k ≤ R.locals) (hn : As.length = n) (hsz : ls.size = nL) (hcat : (rest.map fun v => v.category).sum ≤ 8) (hdg : decode cc pc = .ok (.invokestatic index, 3)) (hcs : cells ≤ R.cells ∧ slots ≤ R.slots) (hst : st = As.reverse ++ rest)
    (kk : W p l e R s0 m args below meth c H locs cells slots Q (F0 m (pc + 3) ls (v :: rest))) : W p l e R s0 m args below meth c H locs cells slots Q (F0 m pc ls st) := by
  intro T hT X
  obtain ⟨v', st₀, t, T', L, h0, X', hL, e1, e2, ⟨hv, hh⟩, st⟩ := va_runS (g := F0 m pc ls st) (rest := rest) S hM (va_cwS n S.2.2.2.2 hG hw rfl rfl hd hR) ⟨xc_blind, fun U hU hWm => ⟨rfl, by rw [hU]; exact va_X.moved hWm.alike hX, by rw [hU]; exact hbl⟩⟩ rfl hn hsz hst (lv_room (pc := pc) (ls := ls) (rest := st) hcat) hdg hcs T hT X
  cases hv
  obtain ⟨t2, a1, b1⟩ := kk T' (by rw [e1, hh, h0]) (Stand.forget X' (fun q h => (hL q h).elim))
  exact ⟨t2, st t2 a1, b1⟩
theorem arL_blank {cL : ClassId} {n : Nat} : (.inl (cL, n, .inr (.inl (fun _ => 0))) : va_E) = arL cL n (fun _ => 0) := by
  unfold arL
  have : (fun i => lI (cut n (fun _ => 0) i)) = fun _ => (0 : Int64) := by
    funext i
    unfold cut
    split <;> rfl
  rw [this]
theorem j_newL {cL : ClassId} (hx : p.tables.exec = Jvm.exec) (hb : c.code = cc) (harr : (Cond.arrayClass .long).before args s0 = true) (hK : va_K D vwCl (kl cI cV cL) s0) {w : va_W} (hW : Wd D A w H0 H locs) (hA : ∀ q, H0.size ≤ q → A q) {k : Int} {n : Nat} (hk : k = n) (hn : n < 1000000) (hcells : cells + 1 ≤ R.cells) (hslots : slots + n ≤ R.slots) (hdg : decode cc pc = .ok (.newarray .long, 2))
    (kk : ∀ (q : Nat) (H1 : Heap), Wd D A (w ++ [(q, arL cL n (fun _ => 0))]) H0 H1 locs → W p l e R s0 m args below meth c H1 locs (cells + 1) (slots + n) Q (F0 m (pc + 2) ls (.ref q :: rest))) : W p l e R s0 m args below meth c H locs cells slots Q (F0 m pc ls (.int (iI k) :: rest)) := by
  subst hk
  have hneg : ¬ iI (n : Int) < 0 := by rw [← iI_0, iI_lt ⟨by omega, by omega⟩ rg_0]; omega
  have hN : (iI (n : Int)).toNatClampNeg = n := by rw [iI_clamp ⟨by omega, by omega⟩]; omega
  refine va_newa (atype := .long) (ty := .long) (a0 := (n, .inr (.inl (fun _ => 0)))) hx hb harr rfl hK hW.1 hW.2.1 hW.2.2 hA (fun cA => rfl) hneg hN (by show n * 8 ≤ _; omega) hcells hslots hdg (fun q cA H1 hK1 hP hD hS => kk q H1 ?_)
  have e : cA = cL := by
    have h1 := (hK1.2 3 (cA, .long) rfl).2
    have h2 := (hK.2 2 (cL, .long) rfl).2
    exact Option.some.inj (h1.symm.trans h2)
  subst e
  rw [arL_blank] at hP hD
  exact ⟨hP, hD, hS⟩
end CO
theorem kl_known {args : Array Value} {s : State} {D : va_G} (hI : (Cond.arrayClass .int).before args s = true) (hV : (Cond.arrayOver (.object "VillageLog$Village")).before args s = true) (hJ : (Cond.arrayClass .long).before args s = true) (hc : ∀ (c : Nat) (q : vw_C), vwCl[c]? = some q → u_Kn s q.1 q.2.1 q.2.2 (D.1 c) (D.2 c)) : ∃ cI cV cL : ClassId, va_K D vwCl (kl cI cV cL) s := by
  obtain ⟨cI, kI, compI, a1, a2, a3⟩ := Cond.arrayClass_spec hI
  obtain ⟨comp, cV, kV, b1, b2, b3, b4, b5⟩ := Cond.arrayOver_spec hV
  obtain ⟨cL, kL, compL, d1, d2, d3⟩ := Cond.arrayClass_spec hJ
  refine ⟨cI, cV, cL, hc, fun k q hk => ?_⟩
  match k, hk with
  | 0, hk => cases hk; exact ⟨fun n z => ⟨fun k h => (by cases h), kI, a2, compI, a3⟩, a1⟩
  | 1, hk => cases hk; exact ⟨fun n z => ⟨fun k h => (by cases h), kV, b3, comp, b4⟩, kV, comp, b3, b4, b1, b5⟩
  | 2, hk => cases hk; exact ⟨fun n z => ⟨fun k h => (by cases h), kL, d2, compL, d3⟩, d1⟩
  | k + 3, hk => simp [kl] at hk
theorem S0_e {j : Nat} (a : j ≠ 5) (b : j ≠ 6) : S0 j = 0 := by
  unfold S0
  rw [up_ne b, up_ne a]
theorem S0_5 : S0 5 = -9 := by
  unfold S0
  rw [up_ne (by omega), up_at rfl]
theorem SV_S0 : SV S0 (fun _ => 0) (fun _ => 0) := by
  have e2 := S0_e (j := 2) (by omega) (by omega)
  have e3 := S0_e (j := 3) (by omega) (by omega)
  have e4 := S0_e (j := 4) (by omega) (by omega)
  have e7 := S0_e (j := 7) (by omega) (by omega)
  refine ⟨Inv_S0, ⟨fun i hi => absurd hi (by omega), fun i hi => absurd hi (by omega), ⟨?_, ?_, fun k _ hk => absurd hk (by omega)⟩, fun q => absurd S0_5 q⟩, fun k hk => absurd hk (by omega), fun k hk => absurd hk (by omega)⟩
  · rw [e2, e4]
    rfl
  · rw [e7, e2, if_pos S0_5]
    rfl
theorem LW_S0 {cI cV : ClassId} {g a : Nat → Nat} {ra : Nat → Nat → Nat} : LW cI cV g a ra S0 (logw cI cV g a ra S0 0 (fun _ => 0) (fun _ => S0) (fun _ => 0) (fun _ _ => 0) 0 0 (fun _ => 0) 0 0 0 0 0) := by
  rw [logw_eq (m := S0) (fun _ _ _ => rfl) (S0_e (j := 1) (by omega) (by omega)).symm (fun i hi => by
    unfold nwO
    rw [if_pos hi, if_neg (fun q => by have := q.2; rw [S0_e (j := 1) (by omega) (by omega)] at this; omega), S0_e (by omega) (by omega)])]
  exact ⟨_, _, _, 0, 0, _, _, _, _, _, by decide, by decide, rfl⟩
