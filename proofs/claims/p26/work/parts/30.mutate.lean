/-! worlds in another order; calls on a part of a world; whole arrays copied -/
theorem va_P.perm {D : va_G} {w w' : va_W} {H : Heap} (hp : w.Perm w') (h : va_P D vwCl w H) : va_P D vwCl w' H := by
  intro k q hq
  obtain ⟨i, hi⟩ := List.getElem?_of_mem (hp.mem_iff.mpr (List.mem_of_getElem? hq))
  exact h i q hi
theorem va_D_iff {A : Nat → Prop} {w : va_W} : va_D A w ↔ w.Pairwise (fun p q => p.1 ≠ q.1) ∧ ∀ q ∈ w, A q.1 := by
  constructor
  · intro h
    refine ⟨List.pairwise_iff_getElem.mpr (fun i j hi hj hij he => ?_), fun q hq => ?_⟩
    · have := h.1 i j w[i] w[j] (List.getElem?_eq_getElem hi) (List.getElem?_eq_getElem hj) he
      omega
    · obtain ⟨i, hi⟩ := List.getElem?_of_mem hq
      exact h.2 i q hi
  · intro h
    refine ⟨fun i j p q hi hj hpq => ?_, fun k q hq => h.2 q (List.mem_of_getElem? hq)⟩
    obtain ⟨hi', ei⟩ := List.getElem?_eq_some_iff.mp hi
    obtain ⟨hj', ej⟩ := List.getElem?_eq_some_iff.mp hj
    have hn := List.pairwise_iff_getElem.mp h.1
    rcases Nat.lt_trichotomy i j with h1 | h1 | h1
    · exact absurd (by rw [ei, ej]; exact hpq) (hn i j hi' hj' h1)
    · exact h1
    · exact absurd (by rw [ei, ej]; exact hpq.symm) (hn j i hj' hi' h1)
theorem va_D.perm {A : Nat → Prop} {w w' : va_W} (hp : w.Perm w') (h : va_D A w) : va_D A w' := by
  rw [va_D_iff] at h ⊢
  exact ⟨(hp.pairwise_iff (fun hxy => Ne.symm hxy)).mp h.1, fun q hq => h.2 q (hp.mem_iff.mpr hq)⟩
theorem Wd.perm {D : va_G} {A : Nat → Prop} {w w' : va_W} {H0 H : Heap} {locs : List Loc} (hp : w.Perm w') (h : Wd D A w H0 H locs) : Wd D A w' H0 H locs := ⟨h.1.perm hp, h.2.1.perm hp, h.2.2⟩
theorem perm_of_count {w w' : va_W} (h : ∀ (i : BEq (Nat × va_E)) (x : Nat × va_E), w.count x = w'.count x) : w.Perm w' := by
  haveI : DecidableEq (Nat × va_E) := fun a b => Classical.propDecidable (a = b)
  exact List.perm_iff_count.mpr (fun x => h _ x)
theorem arI_cpy {cI : ClassId} {n : Nat} {f g : Nat → Int} : (.inl (cI, n, .inl (va_cpy (fun i => iI (cut n f i)) (fun i => iI (cut n g i)) 0 0 n)) : va_E) = arI cI n f := by
  unfold arI
  have : va_cpy (fun i => iI (cut n f i)) (fun i => iI (cut n g i)) 0 0 n = fun i => iI (cut n f i) := by
    funext k
    unfold va_cpy
    by_cases h : k < n
    · rw [if_pos ⟨Nat.zero_le _, by omega⟩]
      simp
    · rw [if_neg (by omega)]
      show iI (cut n g k) = iI (cut n f k)
      unfold cut
      rw [if_neg h, if_neg h]
  rw [this]
section MU
variable {p : Program} {l : Launch} {e : Env} {R : Room} {s0 : State} {m : MethodId} {args : Array Value} {below : List Frame} {meth : Method} {c : Code} {H H0 : Heap} {locs : List Loc} {cells slots : Nat} {Q : State → Prop} {D : va_G} {cI cV : ClassId} {Ts : List Cond} {A : Nat → Prop}
variable {cc : ByteArray} {pc : Nat} {ls : Array Slot} {rest : List Value}
theorem j_acopy (hx : p.tables.exec = Jvm.exec) (hb : c.code = cc) (hml : c.maxLocals = ls.size) {own : String} {index : Nat} (hown : s0.vm.findClass own = some m.cls) (hlink : (Cond.methodLink own index arraycopyName).before args s0 = true) (hnat : (Cond.native arraycopyName).before args s0 = true) (hstat : (Cond.static arraycopyName).before args s0 = true) (hini : (Cond.initialized "java/lang/System").before args s0 = true)
    (hK : va_K D vwCl (kt cI cV) s0) {ws : va_W} (hW : Wd D A ws H0 H locs) (q0 q1 : Nat) {a0 a1 n : Nat} {f g : Nat → Int} {k : Int} (ha0 : ws[q0]? = some (a0, arI cI n f)) (ha1 : ws[q1]? = some (a1, arI cI n g)) (hk : k = n) (hn : n < 2147483648) (hframes : 1 ≤ R.frames) (hlocals : (rest.map fun v => v.category).sum + (nativeFrameWords "java/lang/System" "arraycopy" 5 + 11) ≤ R.locals) (hdg : decode cc pc = .ok (.invokestatic index, 3))
    (kk : ∀ (H1 : Heap) (locs1 : List Loc), Wd D A (ws.set q1 (a1, arI cI n f)) H0 H1 locs1 → W p l e R s0 m args below meth c H1 locs1 cells slots Q (F0 m (pc + 3) ls rest)) : W p l e R s0 m args below meth c H locs cells slots Q (F0 m pc ls (.int (iI k) :: .int (iI 0) :: .ref a1 :: .int (iI 0) :: .ref a0 :: rest)) := by
  subst hk
  have hz : (iI 0).toNatClampNeg = 0 := by decide
  have hN : (iI (n : Int)).toNatClampNeg = n := by rw [iI_clamp ⟨by omega, by omega⟩]; omega
  have hneg : ¬ iI (n : Int) < 0 := by rw [← iI_0, iI_lt ⟨by omega, by omega⟩ rg_0]; omega
  refine va_copyi (f := fun i => iI (cut n f i)) (g := fun i => iI (cut n g i)) hx hb hml hown hlink hnat hstat hini hK hW.1 hW.2.1 hW.2.2 q0 q1 0 0 ha0 ha1 rfl rfl rfl (by decide) (by decide) hneg (by rw [hz, hN]; omega) (by rw [hz, hN]; omega) (fun i hi => rfl) hframes hlocals hdg (fun H1 locs1 hP hD hS => kk H1 locs1 ?_)
  rw [hz, hN, arI_cpy] at hP hD
  exact ⟨hP, hD, hS⟩
theorem m_callP {y : MethodName} {wy wy' : List Cond} {f k n index nL maxL : Nat} {As st st2 : List Value} {v : Option Value} {bytes : ByteArray} {ret : Option FieldType} {own : String} {w w2 post wc wc' : va_W} {ci b : Nat} {q : vw_C} {fs : List Value} (S : CallFix p m c cc nL s0 args Ts own) (hK : va_K D vwCl (kt cI cV) s0) (hW : Wd D A w H0 H locs) (hM : MM l y wy f k (.ref b :: As) wc wc' D cI cV v) (hw1 : w.Perm (wc ++ post)) (hw2 : (wc' ++ post).Perm w2) (hf : wc'.map Prod.fst = wc.map Prod.fst) (hc : vwCl[ci]? = some q) (he : wc[0]? = some (b, .inr (ci, fs)))
    (hG : GoodIn Ts (wsV own index q.1 y wy)) (hw : wy = .code y bytes maxL ret :: wy') (hd : y.cls = q.1 ∧ y.cls ≠ "java/lang/invoke/MethodHandle" ∧ y.cls ≠ "java/lang/invoke/VarHandle" ∧ (parseMethodDescriptor y.desc).map (fun d => d.parameters.length) = some n) (hR : f + 1 ≤ R.frames ∧ 8 + (maxL + 11) + k ≤ R.locals) (hn : As.length = n) (hsz : ls.size = nL) (hcat : (rest.map fun v => v.category).sum ≤ 8) (hdg : decode cc pc = .ok (.invokevirtual index, 3)) (hcs : cells ≤ R.cells ∧ slots ≤ R.slots) (hst : st = As.reverse ++ .ref b :: rest) (hst2 : v.toList ++ rest = st2)
    (kk : ∀ (H1 : Heap) (locs1 : List Loc), Wd D A w2 H0 H1 locs1 → W p l e R s0 m args below meth c H1 locs1 cells slots Q (F0 m (pc + 3) ls st2)) : W p l e R s0 m args below meth c H locs cells slots Q (F0 m pc ls st) :=
  m_callV (pre := []) (post := post) (w := wc ++ post) (w2 := wc' ++ post) S hK (hW.perm hw1) hM rfl rfl hf hc he hG hw hd hR hn hsz hcat hdg hcs hst hst2 (fun H1 locs1 h => kk H1 locs1 (h.perm hw2))
end MU
/-- the old council set anew -/
def setOld (s : Nat → Int) (z : Int) (el : Nat → Int) : Nat → Int := fun j => if j = 1 then z else if 32 ≤ j ∧ j < 37 then el (j - 32) else s j
theorem setOld_ne {s : Nat → Int} {z : Int} {el : Nat → Int} {j : Nat} (h : j ≠ 1 ∧ ¬ (32 ≤ j ∧ j < 37)) : setOld s z el j = s j := by unfold setOld; rw [if_neg h.1, if_neg h.2]
theorem setOld_1 {s : Nat → Int} {z : Int} {el : Nat → Int} : setOld s z el 1 = z := rfl
theorem setOld_el {s : Nat → Int} {z : Int} {el : Nat → Int} {i : Nat} (h : i < 5) : setOld s z el (32 + i) = el i := by unfold setOld; rw [if_neg (by omega), if_pos (by omega), Nat.add_sub_cancel_left]
theorem vilo_congr {cI : ClassId} {a : Nat → Nat} {s t : Nat → Int} (he : ∀ j, (j ≠ 1 ∧ j ≠ 6 ∧ j ≠ 7 ∧ ¬ (32 ≤ j ∧ j < 37) ∧ j < 222) → t j = s j) : vilo cI a t = vilo cI a s := by
  unfold vilo
  rw [show t 0 = s 0 from he _ (by omega), show t 2 = s 2 from he _ (by omega), show t 5 = s 5 from he _ (by omega), show t 3 = s 3 from he _ (by omega), show t 4 = s 4 from he _ (by omega), show arI cI 12 (fun i => t (8 + i)) = arI cI 12 (fun i => s (8 + i)) from arI_congr (fun i hi => he _ (by omega)), show arI cI 12 (fun i => t (20 + i)) = arI cI 12 (fun i => s (20 + i)) from arI_congr (fun i hi => he _ (by omega)), show arI cI 60 (fun i => t (42 + 3 * i)) = arI cI 60 (fun i => s (42 + 3 * i)) from arI_congr (fun i hi => he _ (by omega)), show arI cI 60 (fun i => t (43 + 3 * i)) = arI cI 60 (fun i => s (43 + 3 * i)) from arI_congr (fun i hi => he _ (by omega)), show arI cI 60 (fun i => t (44 + 3 * i)) = arI cI 60 (fun i => s (44 + 3 * i)) from arI_congr (fun i hi => he _ (by omega))]
theorem lotw_congr {cI : ClassId} {a : Nat → Nat} {s t : Nat → Int} (he : ∀ j, (j = 6 ∨ j = 7 ∨ 222 ≤ j) → t j = s j) : lotw cI a t = lotw cI a s := by
  unfold lotw
  rw [show t 6 = s 6 from he _ (by omega), show t 7 = s 7 from he _ (by omega), show arI cI 60 (fun i => t (222 + 5 * i)) = arI cI 60 (fun i => s (222 + 5 * i)) from arI_congr (fun i hi => he _ (by omega)), show arI cI 60 (fun i => t (223 + 5 * i)) = arI cI 60 (fun i => s (223 + 5 * i)) from arI_congr (fun i hi => he _ (by omega)), show arI cI 60 (fun i => t (225 + 5 * i)) = arI cI 60 (fun i => s (225 + 5 * i)) from arI_congr (fun i hi => he _ (by omega)), show arI cI 60 (fun i => t (224 + 5 * i)) = arI cI 60 (fun i => s (224 + 5 * i)) from arI_congr (fun i hi => he _ (by omega)), show arI cI 60 (fun i => t (226 + 5 * i)) = arI cI 60 (fun i => s (226 + 5 * i)) from arI_congr (fun i hi => he _ (by omega))]
theorem couw_congr {cI : ClassId} {o e : Nat} {z : Int} {f g : Nat → Int} (he : ∀ i, i < 5 → f i = g i) : couw cI o e z f = couw cI o e z g := by
  unfold couw
  rw [arI_congr he]
theorem vil_setOld {cI : ClassId} {a : Nat → Nat} {s nw el : Nat → Int} {nz z : Int} : vilw cI a (setOld s z el) nz nw = vilo cI a s ++ (couw cI (a 6) (a 7) z el ++ (couw cI (a 8) (a 9) nz nw ++ lotw cI a s)) := by
  unfold vilw
  rw [vilo_congr (s := s) (fun j hj => setOld_ne ⟨hj.1, hj.2.2.2.1⟩), lotw_congr (s := s) (fun j hj => setOld_ne ⟨by omega, by omega⟩), setOld_1, couw_congr (g := el) (fun i hi => setOld_el hi)]
/-- only the lot's numbers are other -/
def lotOnly (s t : Nat → Int) : Prop := ∀ j, (j ≠ 6 ∧ j ≠ 7 ∧ j < 222) → t j = s j
theorem vil_setLot {cI : ClassId} {a : Nat → Nat} {s t nw : Nat → Int} {nz : Int} (h : lotOnly s t) : vilw cI a t nz nw = vilo cI a s ++ (couw cI (a 6) (a 7) (s 1) (fun i => s (32 + i)) ++ (couw cI (a 8) (a 9) nz nw ++ lotw cI a t)) := by
  unfold vilw
  rw [vilo_congr (s := s) (fun j hj => h j (by omega)), h 1 (by omega), couw_congr (g := fun i => s (32 + i)) (fun i hi => h _ (by omega))]
