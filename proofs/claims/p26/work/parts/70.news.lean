/-! constructors: what they make -/
def NW (U : State) : Prop := va_Nw (.methodLinkNest RX4 20 yX0_init "VillageLog") U ∧ va_Nw (.methodLinkNest RX4 34 yX2_init "VillageLog") U ∧ va_Nw (.methodLinkNest RX1 17 yX4_init "VillageLog") U ∧ va_Nw (.methodLinkNest RX5 9 yX4_init "VillageLog") U ∧ va_Nw (.methodLinkNest RX5 25 yX3_init "VillageLog") U ∧ va_AO "VillageLog$Village" U
theorem NW.warm {s U : State} (hW : s.WarmedH U.vm) (h : NW s) : NW U := ⟨va_Nw.warmM hW h.1, va_Nw.warmM hW h.2.1, va_Nw.warmM hW h.2.2.1, va_Nw.warmM hW h.2.2.2.1, va_Nw.warmM hW h.2.2.2.2.1, va_AO.moved hW.alike h.2.2.2.2.2⟩
theorem NW.same {s U : State} (hv : s.vm = U.vm) (h : NW s) : NW U := ⟨va_Nw.same rfl hv h.1, va_Nw.same rfl hv h.2.1, va_Nw.same rfl hv h.2.2.1, va_Nw.same rfl hv h.2.2.2.1, va_Nw.same rfl hv h.2.2.2.2.1, va_AO.moved (by rw [hv]; exact Vm.Alike.refl _) h.2.2.2.2.2⟩
def nA (h0 sz : Nat) : Nat → Prop := fun q => q = h0 ∨ sz ≤ q
def nQ {ρ : Type} (D : va_G) (F : ρ → va_W) (A : Nat → Prop) : Array Value → State → Outcome → State → Prop := fun _ st oc t => (oc = .returned none ∧ ∃ r : ρ, va_P D vwCl (F r) t.heap ∧ va_D A (F r)) ∧ va_F A st t
abbrev rmN (f k mc ms : Nat) : Room := { frames := f, cells := mc, slots := ms, locals := k }
def NM {ρ : Type} (l : Launch) (y : MethodName) (ws : List Cond) (f k mc ms h0 : Nat) (bl : va_E) (F : ρ → va_W) (D : va_G) (cI cV : ClassId) : Prop := ∀ sz : Nat, Met l y ws (rmN f k mc ms) (va_Pc [.ref h0] (fun U => U.heap.size = sz ∧ va_P D vwCl [(h0, bl)] U.heap ∧ va_K D vwCl (kt cI cV) U ∧ NW U)) (nQ D F (nA h0 sz)) mc ms (nA h0 sz)
theorem NM.of {ρ : Type} {l : Launch} {y : MethodName} {ws ws' : List Cond} {f k mc ms h0 : Nat} {bl : va_E} {F : ρ → va_W} {D : va_G} {cI cV : ClassId} {cc : ByteArray} {maxL : Nat} (hy : plainName y.cls = true) (hw : ws = Cond.code y cc maxL none :: ws') (hn : (lg_sl [.ref h0]).length ≤ maxL)
    (body : ∀ (p : Program) (e : Env) (s0 : State) (m : MethodId) (below : List Frame) (meth : Method) (c : Code) (ls : Array Slot), p.tables.exec = Jvm.exec → c.code = cc → meth.sig.returnType = none → (∀ w ∈ ws, w.before ([.ref h0] : List Value).toArray s0 = true) → s0.vm.findClass y.cls = some m.cls → meth.locks = false → meth.name = y.name → c.maxLocals = maxL → Wd D (nA h0 s0.heap.size) [(h0, bl)] s0.heap s0.heap [] → va_K D vwCl (kt cI cV) s0 → NW s0 → lv_has ls maxL [(0, .ref h0)] →
      W p l e (headSpec ws (rmN f k mc ms)).room s0 m ([.ref h0] : List Value).toArray below meth c s0.heap [] 0 0 (MQ below (nQ D F (nA h0 s0.heap.size)) ([.ref h0] : List Value).toArray s0 mc ms (nA h0 s0.heap.size)) (F0 m 0 ls [])) : NM l y ws f k mc ms h0 bl F D cI cV := by
  intro sz
  refine Met.ofW (cc := cc) (maxL := maxL) (ret := none) hy hw ?_
  intro p e s m args below meth c s₁ B hml hv
  obtain ⟨rfl, hsz, hP, hK, hN⟩ := hv
  subst hsz
  rw [lg_entry_eq]
  refine body p e s m below meth c _ B.exec B.bytes B.returns (atoms_spec (ws := ws) B.pre) (findClass_of_methodNamed B.named) B.notSynchronized (name_of_methodNamed B.named B.method).1 hml ⟨hP, ⟨fun i j p q hi hj _ => ?_, fun k q hq => ?_⟩, va_S.rf⟩ hK hN (lv_entry _ hn)
  · have h1 : i < 1 := (List.getElem?_eq_some_iff.mp hi).1
    have h2 : j < 1 := (List.getElem?_eq_some_iff.mp hj).1
    omega
  · have h1 : k < 1 := (List.getElem?_eq_some_iff.mp hq).1
    rw [show k = 0 by omega] at hq
    cases hq
    exact Or.inl rfl
theorem arI_blank {cI : ClassId} {n : Nat} : (.inl (cI, n, .inl (fun _ => 0)) : va_E) = arI cI n (fun _ => 0) := by
  unfold arI
  have : (fun i => iI (cut n (fun _ => 0) i)) = fun _ => (0 : Int32) := by
    funext i
    unfold cut
    split <;> rfl
  rw [this]
/-- the class of int arrays, and that of rows of villages, are known -/
theorem kt_known {args : Array Value} {s : State} {D : va_G} (hI : (Cond.arrayClass .int).before args s = true) (hV : (Cond.arrayOver (.object "VillageLog$Village")).before args s = true) (hc : ∀ (c : Nat) (q : vw_C), vwCl[c]? = some q → u_Kn s q.1 q.2.1 q.2.2 (D.1 c) (D.2 c)) : ∃ cI cV : ClassId, va_K D vwCl (kt cI cV) s := by
  obtain ⟨cI, kI, compI, a1, a2, a3⟩ := Cond.arrayClass_spec hI
  obtain ⟨comp, cV, kV, b1, b2, b3, b4, b5⟩ := Cond.arrayOver_spec hV
  refine ⟨cI, cV, hc, fun k q hk => ?_⟩
  match k, hk with
  | 0, hk => cases hk; exact ⟨fun n z => ⟨fun k h => (by cases h), kI, a2, compI, a3⟩, a1⟩
  | 1, hk => cases hk; exact ⟨fun n z => ⟨fun k h => (by cases h), kV, b3, comp, b4⟩, kV, comp, b3, b4, b1, b5⟩
  | k + 2, hk => simp [kt] at hk
section NE
variable {p : Program} {l : Launch} {e : Env} {R : Room} {s0 : State} {m : MethodId} {args : Array Value} {below : List Frame} {meth : Method} {c : Code} {H H0 : Heap} {locs : List Loc} {cells slots : Nat} {Q : State → Prop} {D : va_G} {cI cV : ClassId} {Ts : List Cond} {A : Nat → Prop}
variable {cc : ByteArray} {pc : Nat} {ls : Array Slot} {rest : List Value}
theorem n_ret {ρ : Type} {F : ρ → va_W} {h0 mc ms : Nat} (hx : p.tables.exec = Jvm.exec) (hb : c.code = cc) (hr : meth.sig.returnType = none) (hlocks : meth.locks = false) {w : va_W} (hW : Wd D (nA h0 s0.heap.size) w s0.heap H locs) (r : ρ) (hw : w = F r) (hdg : decode cc pc = .ok (.return_, 1)) : W p l e R s0 m args below meth c H locs mc ms (MQ below (nQ D F (nA h0 s0.heap.size)) args s0 mc ms (nA h0 s0.heap.size)) (F0 m pc ls []) := by
  subst hw
  exact W.vret hx hb hr (fun t ht hWm => ⟨⟨rfl, r, ht ▸ hW.1, hW.2.1⟩, hW.2.2.F ht⟩) hW.2.2.2.2 hdg hlocks
theorem j_newI (hx : p.tables.exec = Jvm.exec) (hb : c.code = cc) (harr : (Cond.arrayClass .int).before args s0 = true) (hK : va_K D vwCl (kt cI cV) s0) {w : va_W} (hW : Wd D A w H0 H locs) (hA : ∀ q, H0.size ≤ q → A q) {k : Int} {n : Nat} (hk : k = n) (hn : n < 1000000) (hcells : cells + 1 ≤ R.cells) (hslots : slots + n ≤ R.slots) (hdg : decode cc pc = .ok (.newarray .int, 2))
    (kk : ∀ (q : Nat) (H1 : Heap), Wd D A (w ++ [(q, arI cI n (fun _ => 0))]) H0 H1 locs → W p l e R s0 m args below meth c H1 locs (cells + 1) (slots + n) Q (F0 m (pc + 2) ls (.ref q :: rest))) : W p l e R s0 m args below meth c H locs cells slots Q (F0 m pc ls (.int (iI k) :: rest)) := by
  subst hk
  have hneg : ¬ iI (n : Int) < 0 := by rw [← iI_0, iI_lt ⟨by omega, by omega⟩ rg_0]; omega
  have hN : (iI (n : Int)).toNatClampNeg = n := by rw [iI_clamp ⟨by omega, by omega⟩]; omega
  refine va_newa (atype := .int) (ty := .int) (a0 := (n, .inl (fun _ => 0))) hx hb harr rfl hK hW.1 hW.2.1 hW.2.2 hA (fun cA => rfl) hneg hN (by show n * 4 ≤ _; omega) hcells hslots hdg (fun q cA H1 hK1 hP hD hS => kk q H1 ?_)
  have e : cA = cI := by
    have h1 := (hK1.2 2 (cA, .int) rfl).2
    have h2 := (hK.2 0 (cI, .int) rfl).2
    exact Option.some.inj (h1.symm.trans h2)
  subst e
  rw [arI_blank] at hP hD
  exact ⟨hP, hD, hS⟩
theorem j_newV (hx : p.tables.exec = Jvm.exec) (hb : c.code = cc) {own : String} {index : Nat} (hown : s0.vm.findClass own = some m.cls) (hclink : (Cond.classLink own index "VillageLog$Village").before args s0 = true) (hover : va_AO "VillageLog$Village" s0) (hK : va_K D vwCl (kt cI cV) s0) {w : va_W} (hW : Wd D A w H0 H locs) (hA : ∀ q, H0.size ≤ q → A q) {k : Int} {n : Nat} (hk : k = n) (hn : n < 1000000) (hcells : cells + 1 ≤ R.cells) (hslots : slots + n ≤ R.slots) (hdg : decode cc pc = .ok (.anewarray index, 3))
    (kk : ∀ (q : Nat) (H1 : Heap), Wd D A (w ++ [(q, .inl (cV, n, .inr (.inr (.inr (.inr (fun _ => none))))))]) H0 H1 locs → W p l e R s0 m args below meth c H1 locs (cells + 1) (slots + n) Q (F0 m (pc + 3) ls (.ref q :: rest))) : W p l e R s0 m args below meth c H locs cells slots Q (F0 m pc ls (.int (iI k) :: rest)) := by
  subst hk
  have hneg : ¬ iI (n : Int) < 0 := by rw [← iI_0, iI_lt ⟨by omega, by omega⟩ rg_0]; omega
  have hN : (iI (n : Int)).toNatClampNeg = n := by rw [iI_clamp ⟨by omega, by omega⟩]; omega
  refine va_newq hx hb hown hclink hover hK hW.1 hW.2.1 hW.2.2 hA hneg hN (by omega) hcells hslots hdg (fun q cA H1 hK1 hP hD hS => kk q H1 ?_)
  have e : cA = cV := by
    obtain ⟨-, -, -, -, -, h1⟩ := (hK1.2 2 (cA, .object "VillageLog$Village") rfl).2
    obtain ⟨-, -, -, -, -, h2⟩ := (hK.2 1 (cV, .object "VillageLog$Village") rfl).2
    exact Option.some.inj (h1.symm.trans h2)
  subst e
  exact ⟨hP, hD, hS⟩
theorem j_astV (hx : p.tables.exec = Jvm.exec) (hb : c.code = cc) (hK : va_K D vwCl (kt cI cV) s0) {w : va_W} (hW : Wd D A w H0 H locs) (q0 qk : Nat) {n v a : Nat} {vs : List Value} {f : Nat → Option Nat} (ha : w[q0]? = some (a, .inl (cV, n, .inr (.inr (.inr (.inr f)))))) (hv : w[qk]? = some (v, .inr (4, vs))) {i : Int} (hi : 0 ≤ i ∧ i < n) (hn : n < 2147483648) (hdg : decode cc pc = .ok (.aastore, 1))
    (kk : ∀ (H1 : Heap) (locs1 : List Loc), Wd D A (w.set q0 (a, .inl (cV, n, .inr (.inr (.inr (.inr (va_up f i.toNat (some v)))))))) H0 H1 locs1 → W p l e R s0 m args below meth c H1 locs1 cells slots Q (F0 m (pc + 1) ls rest)) : W p l e R s0 m args below meth c H locs cells slots Q (F0 m pc ls (.ref v :: .int (iI i) :: .ref a :: rest)) := by
  refine va_astq (r := ("VillageLog$Village", TX4, 13)) hx hb hK hW.1 hW.2.1 hW.2.2 q0 1 qk 4 ha rfl hv rfl (iI_in hi hn) hdg (fun H1 locs1 hP hD hS => kk H1 locs1 ?_)
  rw [iI_clamp ⟨by omega, by omega⟩] at hP hD
  exact ⟨hP, hD, hS⟩
theorem Wd.arr {w : va_W} {a r n : Nat} {x : va_E} {f g : Nat → Option Nat} (h : ∀ i, i < n → f i = g i) (hW : Wd D A ((a, x) :: (r, .inl (cV, n, .inr (.inr (.inr (.inr f))))) :: w) H0 H locs) : Wd D A ((a, x) :: (r, .inl (cV, n, .inr (.inr (.inr (.inr g))))) :: w) H0 H locs := by
  obtain ⟨hP, hD, hS⟩ := hW
  have e : vp_cell cV (n, .inr (.inr (.inr (.inr f)))) = vp_cell cV (n, .inr (.inr (.inr (.inr g)))) := by
    rw [vp_cell_q, vp_cell_q]
    unfold arrV
    have : (fun j : Fin n => va_rf (f j.val)) = fun j : Fin n => va_rf (g j.val) := funext fun j => by rw [h j.1 j.2]
    rw [this]
  refine ⟨fun k q hq => ?_, hD.set (p := 1) rfl, hS⟩
  match k, hq with
  | 0, hq => exact hP 0 q hq
  | 1, hq =>
    cases hq
    show H[r]? = some (vp_cell _ _)
    rw [← e]
    exact hP 1 _ rfl
  | k + 2, hq => exact hP (k + 2) q hq
theorem n_blind {av : List Value} {sz : Nat} {w : va_W} : FrameBlind (va_Pc av (fun U => U.heap.size = sz ∧ va_P D vwCl w U.heap ∧ va_K D vwCl (kt cI cV) U ∧ NW U)) := fun a U g mk q => by
  obtain ⟨q0, q1, qP, qK, qN⟩ := q
  exact ⟨q0, q1, qP, va_K.moved (u := U) (U := U.calling g mk a) (Vm.Alike.refl U.vm) qK, NW.same rfl qN⟩
theorem Wd.made {w : va_W} {b : Nat} {bl : va_E} {ws1 : va_W} {H1 : Heap} {locs1 : List Loc} (hW : Wd D A (w ++ [(b, bl)]) H0 H locs) (hA : ∀ q, H0.size ≤ q → A q) (hP1 : va_P D vwCl ws1 H1) (hD1 : va_D (nA b H.size) ws1) (hz : H.size ≤ H1.size) (hk : ∀ q : Nat, q < H.size → ¬ nA b H.size q → H1[q]? = H[q]?) (hL : ∀ x ∈ locs1, x ∈ locs ∨ nA b H.size x.base) : Wd D A (w ++ ws1) H0 H1 locs1 := by
  obtain ⟨hP, hD, hS⟩ := hW
  have hb : (w ++ [(b, bl)])[w.length]? = some (b, bl) := by simp
  have hAb : A b := hD.2 _ _ hb
  have hsub : ∀ q, nA b H.size q → A q := fun q hq => by
    rcases hq with h | h
    · rw [h]; exact hAb
    · exact hA q (Nat.le_trans hS.1 h)
  have hat : ∀ (k : Nat) (q : Nat × va_E), w[k]? = some q → (w ++ [(b, bl)])[k]? = some q := fun k q hq => by
    rw [List.getElem?_append_left (List.getElem?_eq_some_iff.mp hq).1]
    exact hq
  have hne : ∀ (k : Nat) (q : Nat × va_E), w[k]? = some q → ¬ nA b H.size q.1 := fun k q hq hn => by
    have hl := (hP k q (hat k q hq)).lt
    rcases hn with h | h
    · have := hD.1 k w.length q (b, bl) (hat k q hq) hb h
      have := (List.getElem?_eq_some_iff.mp hq).1
      omega
    · omega
  refine ⟨va_P.app (fun k q hq => (hP k q (hat k q hq)).kept (hk q.1 (hP k q (hat k q hq)).lt (hne k q hq))) hP1, va_D.app ⟨fun i j p q hi hj h => hD.1 i j p q (hat i p hi) (hat j q hj) h, fun k q hq => hD.2 k q (hat k q hq)⟩ (hD1.weaken (fun k q _ h => hsub q.1 h)) (fun i j p q hi hj h => hne i p hi (h ▸ hD1.2 j q hj)), Nat.le_trans hS.1 hz, fun q h1 h2 => ?_, fun x hx => ?_⟩
  · rw [hk q (Nat.lt_of_lt_of_le h1 hS.1) (fun z => h2 (hsub q z))]
    exact hS.2.1 q h1 h2
  · rcases hL x hx with h | h
    · exact hS.2.2 x h
    · exact hsub _ h
theorem n_callN {ρ : Type} {y : MethodName} {wy wy' : List Cond} {f k mc ms index nL maxL b : Nat} {bl : va_E} {F : ρ → va_W} {bytes : ByteArray} {own : String} {w : va_W} {host : String} (S : CallFix p m c cc nL s0 args Ts own) (hK : va_K D vwCl (kt cI cV) s0) (hN : NW s0) (hW : Wd D A (w ++ [(b, bl)]) H0 H locs) (hA : ∀ q, H0.size ≤ q → A q) (hM : NM l y wy f k mc ms b bl F D cI cV) (hl : va_Nw (.methodLinkNest own index y host) s0)
    (hG : GoodIn Ts wy) (hw : wy = .code y bytes maxL none :: wy') (hini : (Cond.initialized y.cls).before args s0 = true) (hin : (Cond.instanceMethod y).before args s0 = true) (hy1 : y.name = "<init>")
    (hd : y.cls ≠ "java/lang/invoke/MethodHandle" ∧ y.cls ≠ "java/lang/invoke/VarHandle" ∧ (parseMethodDescriptor y.desc).map (fun d => d.parameters.length) = some 0) (hR : f + 1 ≤ R.frames ∧ 8 + (maxL + 11) + k ≤ R.locals) (hsz : ls.size = nL) (hcat : (rest.map fun v => v.category).sum ≤ 8) (hdg : decode cc pc = .ok (.invokespecial index, 3)) (hcs : cells + mc ≤ R.cells ∧ slots + ms ≤ R.slots)
    (kk : ∀ (r : ρ) (H1 : Heap) (locs1 : List Loc), Wd D A (w ++ F r) H0 H1 locs1 → W p l e R s0 m args below meth c H1 locs1 (cells + mc) (slots + ms) Q (F0 m (pc + 3) ls rest)) : W p l e R s0 m args below meth c H locs cells slots Q (F0 m pc ls (.ref b :: rest)) := by
  have hPb : va_P D vwCl [(b, bl)] H := va_P.mid (pre := w) (post := []) (by rw [List.append_nil]; exact hW.1)
  intro T hT X
  obtain ⟨v', st₀, t, T', L, h0, X', hL, e1, e2, ⟨⟨hv, r, hP1, hD1⟩, hz, hk⟩, st⟩ := va_runIN (g := F0 m pc ls (.ref b :: rest)) (rest := rest) (As := []) S (hM H.size) ⟨va_cnB 0 S.2.2.2.2 hG hw rfl rfl hl hini hd hR, hy1, hin⟩ ⟨n_blind, fun U hU hWm => ⟨rfl, by rw [hU], by rw [hU]; exact hPb, hK.moved hWm.alike, hN.warm hWm⟩⟩ rfl rfl hsz rfl (lv_room (pc := pc) (ls := ls) (rest := .ref b :: rest) hcat) hdg hcs T hT X
  cases hv
  rw [h0] at hz hk
  rw [← e1] at hP1 hz hk
  obtain ⟨t2, a1, b1⟩ := kk r T'.heap (locs ++ L) (hW.made hA hP1 hD1 hz hk (fun x hx => (List.mem_append.mp hx).imp id (hL x))) T' rfl X'
  exact ⟨t2, st t2 a1, b1⟩
theorem n_callI {ρ : Type} {y : MethodName} {wy wy' : List Cond} {f k mc ms index nL maxL b : Nat} {bl : va_E} {F : ρ → va_W} {bytes : ByteArray} {own : String} {w : va_W} (S : CallFix p m c cc nL s0 args Ts own) (hK : va_K D vwCl (kt cI cV) s0) (hN : NW s0) (hW : Wd D A (w ++ [(b, bl)]) H0 H locs) (hA : ∀ q, H0.size ≤ q → A q) (hM : NM l y wy f k mc ms b bl F D cI cV) (hl : (Cond.methodLink own index y).before args s0 = true)
    (hG : GoodIn Ts wy) (hw : wy = .code y bytes maxL none :: wy') (hini : (Cond.initialized y.cls).before args s0 = true) (hin : (Cond.instanceMethod y).before args s0 = true) (hy1 : y.name = "<init>")
    (hd : y.cls ≠ "java/lang/invoke/MethodHandle" ∧ y.cls ≠ "java/lang/invoke/VarHandle" ∧ (parseMethodDescriptor y.desc).map (fun d => d.parameters.length) = some 0) (hR : f + 1 ≤ R.frames ∧ 8 + (maxL + 11) + k ≤ R.locals) (hsz : ls.size = nL) (hcat : (rest.map fun v => v.category).sum ≤ 8) (hdg : decode cc pc = .ok (.invokespecial index, 3)) (hcs : cells + mc ≤ R.cells ∧ slots + ms ≤ R.slots)
    (kk : ∀ (r : ρ) (H1 : Heap) (locs1 : List Loc), Wd D A (w ++ F r) H0 H1 locs1 → W p l e R s0 m args below meth c H1 locs1 (cells + mc) (slots + ms) Q (F0 m (pc + 3) ls rest)) : W p l e R s0 m args below meth c H locs cells slots Q (F0 m pc ls (.ref b :: rest)) := by
  have hPb : va_P D vwCl [(b, bl)] H := va_P.mid (pre := w) (post := []) (by rw [List.append_nil]; exact hW.1)
  intro T hT X
  obtain ⟨v', st₀, t, T', L, h0, X', hL, e1, e2, ⟨⟨hv, r, hP1, hD1⟩, hz, hk⟩, st⟩ := va_runI (g := F0 m pc ls (.ref b :: rest)) (rest := rest) (As := []) S (hM H.size) (cwI 0 S.2.2.2.2 hG hw rfl rfl hini hl hin hy1 hd hR) ⟨n_blind, fun U hU hWm => ⟨rfl, by rw [hU], by rw [hU]; exact hPb, hK.moved hWm.alike, hN.warm hWm⟩⟩ rfl rfl hsz rfl (lv_room (pc := pc) (ls := ls) (rest := .ref b :: rest) hcat) hdg hcs T hT X
  cases hv
  rw [h0] at hz hk
  rw [← e1] at hP1 hz hk
  obtain ⟨t2, a1, b1⟩ := kk r T'.heap (locs ++ L) (hW.made hA hP1 hD1 hz hk (fun x hx => (List.mem_append.mp hx).imp id (hL x))) T' rfl X'
  exact ⟨t2, st t2 a1, b1⟩
end NE
