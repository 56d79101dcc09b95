/-! contracts: PM reads only; MM changes the world that it is given, and makes nothing -/
def pQ (v : Option Value) : Array Value → State → Outcome → State → Prop := fun _ st oc t => oc = .returned v ∧ t.heap = st.heap
abbrev rmK (f k : Nat) : Room := { frames := f, cells := 0, slots := 0, locals := k }
def PM (l : Launch) (y : MethodName) (ws : List Cond) (f k : Nat) (av : List Value) (w : va_W) (D : va_G) (cI cV : ClassId) (v : Option Value) : Prop := Met l y ws (rmK f k) (va_Pc av (fun U => va_P D vwCl w U.heap ∧ va_K D vwCl (kt cI cV) U)) (pQ v) 0 0 (fun _ => False)
def ad (w : va_W) : Nat → Prop := fun q => q ∈ w.map Prod.fst
def mQ (D : va_G) (v : Option Value) (w : va_W) (A : Nat → Prop) : Array Value → State → Outcome → State → Prop := fun _ st oc t => (oc = .returned v ∧ va_P D vwCl w t.heap) ∧ va_F A st t
def MM (l : Launch) (y : MethodName) (ws : List Cond) (f k : Nat) (av : List Value) (w w' : va_W) (D : va_G) (cI cV : ClassId) (v : Option Value) : Prop := Met l y ws (rmK f k) (va_Pc av (fun U => va_P D vwCl w U.heap ∧ va_D (fun _ => True) w ∧ va_K D vwCl (kt cI cV) U)) (mQ D v w' (ad w)) 0 0 (ad w)
theorem PM.of {l : Launch} {y : MethodName} {ws ws' : List Cond} {f k : Nat} {av : List Value} {w : va_W} {D : va_G} {cI cV : ClassId} {v : Option Value} {cc : ByteArray} {maxL : Nat} {ret : Option FieldType} (hy : plainName y.cls = true) (hw : ws = Cond.code y cc maxL ret :: ws') (hn : (lg_sl av).length ≤ maxL)
    (body : ∀ (p : Program) (e : Env) (s0 : State) (m : MethodId) (below : List Frame) (meth : Method) (c : Code) (ls : Array Slot), p.tables.exec = Jvm.exec → c.code = cc → meth.sig.returnType = ret → (∀ w ∈ ws, w.before av.toArray s0 = true) → s0.vm.findClass y.cls = some m.cls → meth.locks = false → c.maxLocals = maxL → va_P D vwCl w s0.heap → va_K D vwCl (kt cI cV) s0 → lv_has ls maxL (lv_args 0 av) →
      W p l e (headSpec ws (rmK f k)).room s0 m av.toArray below meth c s0.heap [] 0 0 (MQ below (pQ v) av.toArray s0 0 0 (fun _ => False)) (F0 m 0 ls [])) : PM l y ws f k av w D cI cV v := by
  refine Met.ofW (cc := cc) (maxL := maxL) (ret := ret) hy hw ?_
  intro p e s m args below meth c s₁ B hml hv
  obtain ⟨rfl, hP, hK⟩ := hv
  rw [lg_entry_eq]
  exact body p e s m below meth c _ B.exec B.bytes B.returns (atoms_spec (ws := ws) B.pre) (findClass_of_methodNamed B.named) B.notSynchronized hml hP hK (lv_entry av hn)
theorem MM.of {l : Launch} {y : MethodName} {ws ws' : List Cond} {f k : Nat} {av : List Value} {w w' : va_W} {D : va_G} {cI cV : ClassId} {v : Option Value} {cc : ByteArray} {maxL : Nat} {ret : Option FieldType} (hy : plainName y.cls = true) (hw : ws = Cond.code y cc maxL ret :: ws') (hn : (lg_sl av).length ≤ maxL)
    (body : ∀ (p : Program) (e : Env) (s0 : State) (m : MethodId) (below : List Frame) (meth : Method) (c : Code) (ls : Array Slot), p.tables.exec = Jvm.exec → c.code = cc → meth.sig.returnType = ret → (∀ w ∈ ws, w.before av.toArray s0 = true) → s0.vm.findClass y.cls = some m.cls → meth.locks = false → c.maxLocals = maxL → Wd D (ad w) w s0.heap s0.heap [] → va_K D vwCl (kt cI cV) s0 → lv_has ls maxL (lv_args 0 av) →
      W p l e (headSpec ws (rmK f k)).room s0 m av.toArray below meth c s0.heap [] 0 0 (MQ below (mQ D v w' (ad w)) av.toArray s0 0 0 (ad w)) (F0 m 0 ls [])) : MM l y ws f k av w w' D cI cV v := by
  refine Met.ofW (cc := cc) (maxL := maxL) (ret := ret) hy hw ?_
  intro p e s m args below meth c s₁ B hml hv
  obtain ⟨rfl, hP, hD, hK⟩ := hv
  rw [lg_entry_eq]
  exact body p e s m below meth c _ B.exec B.bytes B.returns (atoms_spec (ws := ws) B.pre) (findClass_of_methodNamed B.named) B.notSynchronized hml ⟨hP, ⟨hD.1, fun k q hq => List.mem_map_of_mem (List.mem_of_getElem? hq)⟩, va_S.rf⟩ hK (lv_entry av hn)
theorem Wd.frame {D : va_G} {A : Nat → Prop} {pre wc wc' post : va_W} {H0 H H1 : Heap} {locs locs1 : List Loc} (h : Wd D A (pre ++ (wc ++ post)) H0 H locs) (hf : wc'.map Prod.fst = wc.map Prod.fst) (hP1 : va_P D vwCl wc' H1) (hk : ∀ q : Nat, q < H.size → ¬ ad wc q → H1[q]? = H[q]?) (hS : va_S A H0 H1 locs1) : Wd D A (pre ++ (wc' ++ post)) H0 H1 locs1 := by
  obtain ⟨hP, hD, -⟩ := h
  have hlen : wc'.length = wc.length := by simpa using congrArg List.length hf
  have keep : ∀ (k : Nat) (q : Nat × va_E), (pre ++ (wc ++ post))[k]? = some q → (k < pre.length ∨ pre.length + wc.length ≤ k) → va_at D vwCl q H1 := by
    intro k q hq hkk
    have ha := hP k q hq
    refine ha.kept (hk q.1 ha.lt (fun hin => ?_))
    obtain ⟨q', hq', he⟩ := List.mem_map.mp hin
    obtain ⟨i, hi⟩ := List.getElem?_of_mem hq'
    have hil := (List.getElem?_eq_some_iff.mp hi).1
    have h2 : (pre ++ (wc ++ post))[pre.length + i]? = some q' := by
      rw [List.getElem?_append_right (by omega), Nat.add_sub_cancel_left, List.getElem?_append_left hil]
      exact hi
    have := hD.1 _ _ _ _ hq h2 he.symm
    omega
  refine ⟨fun k q hq => ?_, ⟨fun i j p q hi hj hpq => ?_, fun k q hq => ?_⟩, hS⟩
  · by_cases h1 : k < pre.length
    · rw [List.getElem?_append_left h1] at hq
      exact keep k q (by rw [List.getElem?_append_left h1]; exact hq) (Or.inl h1)
    · rw [List.getElem?_append_right (by omega)] at hq
      by_cases h2 : k - pre.length < wc.length
      · rw [List.getElem?_append_left (by omega)] at hq
        exact hP1 _ q hq
      · rw [List.getElem?_append_right (by omega), hlen] at hq
        exact keep k q (by rw [List.getElem?_append_right (by omega), List.getElem?_append_right (by omega)]; exact hq) (Or.inr (by omega))
  all_goals
    have hm : (pre ++ (wc' ++ post)).map Prod.fst = (pre ++ (wc ++ post)).map Prod.fst := by simp [hf]
    have fst_at : ∀ (k : Nat) (q : Nat × va_E), (pre ++ (wc' ++ post))[k]? = some q → ∃ q', (pre ++ (wc ++ post))[k]? = some q' ∧ q'.1 = q.1 := by
      intro k q hq
      have h3 : ((pre ++ (wc' ++ post)).map Prod.fst)[k]? = some q.1 := by rw [List.getElem?_map, hq]; rfl
      rw [hm, List.getElem?_map] at h3
      cases hz : (pre ++ (wc ++ post))[k]? with
      | none => rw [hz] at h3; cases h3
      | some q' => rw [hz] at h3; exact ⟨q', rfl, Option.some.inj h3⟩
  · obtain ⟨p', a1, a2⟩ := fst_at i p hi
    obtain ⟨q', b1, b2⟩ := fst_at j q hj
    exact hD.1 i j p' q' a1 b1 (by rw [a2, b2, hpq])
  · obtain ⟨q', a1, a2⟩ := fst_at k q hq
    exact a2 ▸ hD.2 k q' a1
theorem va_P.mid {D : va_G} {pre wc post : va_W} {H : Heap} (h : va_P D vwCl (pre ++ (wc ++ post)) H) : va_P D vwCl wc H := by
  intro k q hq
  have hk := (List.getElem?_eq_some_iff.mp hq).1
  exact h (pre.length + k) q (by rw [List.getElem?_append_right (by omega), Nat.add_sub_cancel_left, List.getElem?_append_left hk]; exact hq)
theorem va_D.mid {A : Nat → Prop} {pre wc post : va_W} (h : va_D A (pre ++ (wc ++ post))) : va_D A wc := by
  have sh : ∀ (k : Nat) (q : Nat × va_E), wc[k]? = some q → (pre ++ (wc ++ post))[pre.length + k]? = some q := by
    intro k q hq
    have hk := (List.getElem?_eq_some_iff.mp hq).1
    rw [List.getElem?_append_right (by omega), Nat.add_sub_cancel_left, List.getElem?_append_left hk]
    exact hq
  refine ⟨fun i j p q hi hj hpq => ?_, fun k q hq => h.2 _ q (sh k q hq)⟩
  have := h.1 _ _ p q (sh i p hi) (sh j q hj) hpq
  omega
section CO
variable {p : Program} {l : Launch} {e : Env} {R : Room} {s0 : State} {m : MethodId} {args : Array Value} {below : List Frame} {meth : Method} {c : Code} {H H0 : Heap} {locs : List Loc} {cells slots : Nat} {Q : State → Prop} {D : va_G} {cI cV : ClassId} {Ts : List Cond} {A : Nat → Prop}
variable {cc : ByteArray} {pc : Nat} {ls : Array Slot} {rest : List Value}
theorem p_iret (hx : p.tables.exec = Jvm.exec) (hb : c.code = cc) (hr : meth.sig.returnType = some .int) (hlocks : meth.locks = false) {a b : Int} (he : a = b) (hdg : decode cc pc = .ok (.ireturn, 1)) : W p l e R s0 m args below meth c s0.heap [] 0 0 (MQ below (pQ (some (.int (iI b)))) args s0 0 0 (fun _ => False)) (F0 m pc ls [.int (iI a)]) := by
  subst he
  exact W.iret hx hb hr (fun t ht hW => ⟨rfl, ht⟩) (fun _ h => by cases h) hdg hlocks
theorem p_zret (hx : p.tables.exec = Jvm.exec) (hb : c.code = cc) (hr : meth.sig.returnType = some .boolean) (hlocks : meth.locks = false) {a b : Int} (h01 : a = 0 ∨ a = 1) (he : a = b) (hdg : decode cc pc = .ok (.ireturn, 1)) : W p l e R s0 m args below meth c s0.heap [] 0 0 (MQ below (pQ (some (.int (iI b)))) args s0 0 0 (fun _ => False)) (F0 m pc ls [.int (iI a)]) := by
  subst he
  exact W.zret hx hb hr (by rcases h01 with h | h <;> subst h <;> decide +kernel) (fun t ht hW => ⟨rfl, ht⟩) (fun _ h => by cases h) hdg hlocks
theorem m_iret {w w2 w' : va_W} (hx : p.tables.exec = Jvm.exec) (hb : c.code = cc) (hr : meth.sig.returnType = some .int) (hlocks : meth.locks = false) (hW : Wd D (ad w) w2 s0.heap H locs) (hw : w2 = w') {a b : Int} (he : a = b) (hdg : decode cc pc = .ok (.ireturn, 1)) : W p l e R s0 m args below meth c H locs 0 0 (MQ below (mQ D (some (.int (iI b))) w' (ad w)) args s0 0 0 (ad w)) (F0 m pc ls [.int (iI a)]) := by
  subst he
  subst hw
  exact W.iret hx hb hr (fun t ht hWm => ⟨⟨rfl, ht ▸ hW.1⟩, hW.2.2.F ht⟩) hW.2.2.2.2 hdg hlocks
theorem m_vret {w w2 w' : va_W} (hx : p.tables.exec = Jvm.exec) (hb : c.code = cc) (hr : meth.sig.returnType = none) (hlocks : meth.locks = false) (hW : Wd D (ad w) w2 s0.heap H locs) (hw : w2 = w') (hdg : decode cc pc = .ok (.return_, 1)) : W p l e R s0 m args below meth c H locs 0 0 (MQ below (mQ D none w' (ad w)) args s0 0 0 (ad w)) (F0 m pc ls []) := by
  subst hw
  exact W.vret hx hb hr (fun t ht hWm => ⟨⟨rfl, ht ▸ hW.1⟩, hW.2.2.F ht⟩) hW.2.2.2.2 hdg hlocks
theorem pc_blind {av : List Value} {w : va_W} : FrameBlind (va_Pc av (fun U => va_P D vwCl w U.heap ∧ va_K D vwCl (kt cI cV) U)) := fun a U g mk q => by
  obtain ⟨q0, qP, qK⟩ := q
  exact ⟨q0, qP, va_K.moved (u := U) (U := U.calling g mk a) (Vm.Alike.refl U.vm) qK⟩
theorem mc_blind {av : List Value} {w : va_W} : FrameBlind (va_Pc av (fun U => va_P D vwCl w U.heap ∧ va_D (fun _ => True) w ∧ va_K D vwCl (kt cI cV) U)) := fun a U g mk q => by
  obtain ⟨q0, qP, qD, qK⟩ := q
  exact ⟨q0, qP, qD, va_K.moved (u := U) (U := U.calling g mk a) (Vm.Alike.refl U.vm) qK⟩
theorem p_callV {y : MethodName} {wy wy' : List Cond} {f k n index nL maxL : Nat} {As st : List Value} {v : Value} {bytes : ByteArray} {ret : Option FieldType} {own : String} {w : va_W} {ci b : Nat} {q : vw_C} {fs : List Value} (S : CallFix p m c cc nL s0 args Ts own) (hK : va_K D vwCl (kt cI cV) s0) (hM : PM l y wy f k (.ref b :: As) w D cI cV (some v)) (hP : va_P D vwCl w H) (hc : vwCl[ci]? = some q) (he : w[0]? = some (b, .inr (ci, fs)))
    (hG : GoodIn Ts (wsV own index q.1 y wy)) (hw : wy = .code y bytes maxL ret :: wy') (hd : y.cls = q.1 ∧ y.cls ≠ "java/lang/invoke/MethodHandle" ∧ y.cls ≠ "java/lang/invoke/VarHandle" ∧ (parseMethodDescriptor y.desc).map (fun d => d.parameters.length) = some n) (hR : f + 1 ≤ R.frames ∧ 8 + (maxL + 11) + k ≤ R.locals) (hn : As.length = n) (hsz : ls.size = nL) (hcat : (rest.map fun v => v.category).sum ≤ 8) (hdg : decode cc pc = .ok (.invokevirtual index, 3)) (hcs : cells ≤ R.cells ∧ slots ≤ R.slots) (hst : st = As.reverse ++ .ref b :: rest)
    (kk : W p l e R s0 m args below meth c H locs cells slots Q (F0 m (pc + 3) ls (v :: rest))) : W p l e R s0 m args below meth c H locs cells slots Q (F0 m pc ls st) := by
  intro T hT X
  obtain ⟨v', st₀, t, T', L, h0, X', hL, e1, e2, ⟨hv, hh⟩, st⟩ := va_runV (g := F0 m pc ls st) (rest := rest) S hM (cwV n S.2.2.2.2 hG hw rfl rfl hd hR) ⟨pc_blind, va_recv hK hP hc he, fun U hU hWm => ⟨rfl, by rw [hU]; exact hP, hK.moved hWm.alike⟩⟩ rfl hn hsz hst (lv_room (pc := pc) (ls := ls) (rest := st) hcat) hdg hcs T hT X
  cases hv
  obtain ⟨t2, a1, b1⟩ := kk T' (by rw [e1, hh, h0]) (Stand.forget X' (fun q h => (hL q h).elim))
  exact ⟨t2, st t2 a1, b1⟩
theorem p_callS {y : MethodName} {wy wy' : List Cond} {f k n index nL maxL : Nat} {As st : List Value} {v : Value} {bytes : ByteArray} {ret : Option FieldType} {own : String} {w : va_W} (S : CallFix p m c cc nL s0 args Ts own) (hK : va_K D vwCl (kt cI cV) s0) (hM : PM l y wy f k As w D cI cV (some v)) (hP : va_P D vwCl w H)
    (hG : GoodIn Ts (va_wsS own index y wy)) (hw : wy = .code y bytes maxL ret :: wy') (hd : y.cls ≠ "java/lang/invoke/MethodHandle" ∧ y.cls ≠ "java/lang/invoke/VarHandle" ∧ (parseMethodDescriptor y.desc).map (fun d => d.parameters.length) = some n) (hR : f + 1 ≤ R.frames ∧ 8 + (maxL + 11) + k ≤ R.locals) (hn : As.length = n) (hsz : ls.size = nL) (hcat : (rest.map fun v => v.category).sum ≤ 8) (hdg : decode cc pc = .ok (.invokestatic index, 3)) (hcs : cells ≤ R.cells ∧ slots ≤ R.slots) (hst : st = As.reverse ++ rest)
    (kk : W p l e R s0 m args below meth c H locs cells slots Q (F0 m (pc + 3) ls (v :: rest))) : W p l e R s0 m args below meth c H locs cells slots Q (F0 m pc ls st) := by
  intro T hT X
  obtain ⟨v', st₀, t, T', L, h0, X', hL, e1, e2, ⟨hv, hh⟩, st⟩ := va_runS (g := F0 m pc ls st) (rest := rest) S hM (va_cwS n S.2.2.2.2 hG hw rfl rfl hd hR) ⟨pc_blind, fun U hU hWm => ⟨rfl, by rw [hU]; exact hP, hK.moved hWm.alike⟩⟩ rfl hn hsz hst (lv_room (pc := pc) (ls := ls) (rest := st) hcat) hdg hcs T hT X
  cases hv
  obtain ⟨t2, a1, b1⟩ := kk T' (by rw [e1, hh, h0]) (Stand.forget X' (fun q h => (hL q h).elim))
  exact ⟨t2, st t2 a1, b1⟩
theorem m_callV {y : MethodName} {wy wy' : List Cond} {f k n index nL maxL : Nat} {As st st2 : List Value} {v : Option Value} {bytes : ByteArray} {ret : Option FieldType} {own : String} {w w2 pre post wc wc' : va_W} {ci b : Nat} {q : vw_C} {fs : List Value} (S : CallFix p m c cc nL s0 args Ts own) (hK : va_K D vwCl (kt cI cV) s0) (hW : Wd D A w H0 H locs) (hM : MM l y wy f k (.ref b :: As) wc wc' D cI cV v) (hw1 : w = pre ++ (wc ++ post)) (hw2 : pre ++ (wc' ++ post) = w2) (hf : wc'.map Prod.fst = wc.map Prod.fst) (hc : vwCl[ci]? = some q) (he : wc[0]? = some (b, .inr (ci, fs)))
    (hG : GoodIn Ts (wsV own index q.1 y wy)) (hw : wy = .code y bytes maxL ret :: wy') (hd : y.cls = q.1 ∧ y.cls ≠ "java/lang/invoke/MethodHandle" ∧ y.cls ≠ "java/lang/invoke/VarHandle" ∧ (parseMethodDescriptor y.desc).map (fun d => d.parameters.length) = some n) (hR : f + 1 ≤ R.frames ∧ 8 + (maxL + 11) + k ≤ R.locals) (hn : As.length = n) (hsz : ls.size = nL) (hcat : (rest.map fun v => v.category).sum ≤ 8) (hdg : decode cc pc = .ok (.invokevirtual index, 3)) (hcs : cells ≤ R.cells ∧ slots ≤ R.slots) (hst : st = As.reverse ++ .ref b :: rest) (hst2 : v.toList ++ rest = st2)
    (kk : ∀ (H1 : Heap) (locs1 : List Loc), Wd D A w2 H0 H1 locs1 → W p l e R s0 m args below meth c H1 locs1 cells slots Q (F0 m (pc + 3) ls st2)) : W p l e R s0 m args below meth c H locs cells slots Q (F0 m pc ls st) := by
  subst hw1
  subst hw2
  subst hst2
  have hP := hW.1.mid
  have hD := hW.2.1.mid
  have hAd : ∀ q, ad wc q → A q := fun q hq => by
    obtain ⟨q', hq', he⟩ := List.mem_map.mp hq
    obtain ⟨i, hi⟩ := List.getElem?_of_mem hq'
    exact he ▸ hD.2 i q' hi
  intro T hT X
  obtain ⟨v', st₀, t, T', L, h0, X', hL, e1, e2, ⟨⟨hv, hP1⟩, hz, hk⟩, st⟩ := va_runV (g := F0 m pc ls st) (rest := rest) S hM (cwV n S.2.2.2.2 hG hw rfl rfl hd hR) ⟨mc_blind, va_recv hK hP hc he, fun U hU hWm => ⟨rfl, by rw [hU]; exact hP, hD.weaken (fun _ _ _ _ => trivial), hK.moved hWm.alike⟩⟩ rfl hn hsz hst (lv_room (pc := pc) (ls := ls) (rest := st) hcat) hdg hcs T hT X
  cases hv
  rw [h0] at hz hk
  rw [← e1] at hP1 hz hk
  have hS := hW.2.2
  have hS1 : va_S A H0 T'.heap (locs ++ L) := ⟨Nat.le_trans hS.1 hz, fun q h1 h2 => by rw [hk q (Nat.lt_of_lt_of_le h1 hS.1) (fun z => h2 (hAd q z))]; exact hS.2.1 q h1 h2, fun q hq => by
    rcases List.mem_append.mp hq with h | h
    · exact hS.2.2 q h
    · exact hAd _ (hL q h)⟩
  obtain ⟨t2, a1, b1⟩ := kk T'.heap (locs ++ L) (hW.frame hf hP1 hk hS1) T' rfl X'
  exact ⟨t2, st t2 a1, b1⟩
end CO
