/-! the law: longs, its arrays, its contracts -/
theorem u_tn {n : Nat} (h : n < 2 ^ 64) : (UInt64.ofNat n).toNat = n := Nat.mod_eq_of_lt h
theorem wb_tb (n : Nat) : (lN n).toBitVec = BitVec.ofNat 64 n := rfl
theorem wb_inj {a b : Int64} (h : a.toBitVec = b.toBitVec) : a = b := Int64.toBitVec_inj.mp h
theorem wb_tn {n : Nat} (h : n < 2 ^ 64) : (lN n).toBitVec.toNat = n := by rw [wb_tb, BitVec.toNat_ofNat, Nat.mod_eq_of_lt h]
theorem wb_of (x : Int64) : ∃ n, n < 2 ^ 64 ∧ x = lN n := ⟨x.toBitVec.toNat, x.toBitVec.isLt, wb_inj (by rw [wb_tb]; simp)⟩
theorem wb_c : ∀ k, k < 64 → ((nI k).toInt64 &&& 63) = lN k := by decide +kernel
theorem wb_sm : ∀ k, k < 64 → (BitVec.ofNat 64 k).smod 64 = BitVec.ofNat 64 k := by decide +kernel
theorem wb_shl (n : Nat) {k : Nat} (hk : k < 64) : lN n <<< ((nI k).toInt64 &&& 63) = lN (n * 2 ^ k) := by
  rw [wb_c k hk]
  apply wb_inj
  rw [Int64.toBitVec_shiftLeft, wb_tb, wb_tb, wb_tb, wb_sm k hk]
  apply BitVec.eq_of_toNat_eq
  rw [BitVec.shiftLeft_eq', BitVec.toNat_shiftLeft, BitVec.toNat_ofNat, BitVec.toNat_ofNat, BitVec.toNat_ofNat, Nat.mod_eq_of_lt (show k < 2 ^ 64 by omega), Nat.shiftLeft_eq, Nat.mul_mod, Nat.mod_mod, ← Nat.mul_mod]
theorem wb_and {a b : Nat} (ha : a < 2 ^ 64) (hb : b < 2 ^ 64) : lN a &&& lN b = lN (a &&& b) := by
  apply wb_inj
  rw [Int64.toBitVec_and, wb_tb, wb_tb, wb_tb]
  apply BitVec.eq_of_toNat_eq
  rw [BitVec.toNat_and, BitVec.toNat_ofNat, BitVec.toNat_ofNat, BitVec.toNat_ofNat, Nat.mod_eq_of_lt ha, Nat.mod_eq_of_lt hb, Nat.mod_eq_of_lt (Nat.and_lt_two_pow _ hb)]
theorem g_and {a b c : Nat} (ha : a < 2 ^ 64) (hb : b < 2 ^ 64) (hc : a &&& b = c) : lN a &&& lN b = lN c := by
  subst hc
  have h : UInt64.ofNat a &&& UInt64.ofNat b = UInt64.ofNat (a &&& b) := UInt64.toNat_inj.mp (by rw [UInt64.toNat_and, u_tn ha, u_tn hb, u_tn (Nat.and_lt_two_pow a hb)])
  have h2 := congrArg UInt64.toInt64 h
  exact h2
theorem g_mask {a s p : Nat} (hp : 2 ^ s = p) (hs : s < 64) (ha : a < 2 ^ 64) : lN a &&& lN (p - 1) = lN (a % p) := by
  subst hp
  have := Nat.pow_lt_pow_right (show 1 < 2 by decide) hs
  exact g_and ha (by omega) (Nat.and_two_pow_sub_one_eq_mod a s)
theorem g_or {k p a b : Nat} (hp : 2 ^ k = p) (ha : a < p) (h : b * p + a < 2 ^ 64) : lN (b * p) ||| lN a = lN (b * p + a) := by
  subst hp
  have h1 : b * 2 ^ k ||| a = b * 2 ^ k + a := by rw [← Nat.shiftLeft_eq, Nat.shiftLeft_add_eq_or_of_lt ha]
  have h3 : UInt64.ofNat (b * 2 ^ k) ||| UInt64.ofNat a = UInt64.ofNat (b * 2 ^ k + a) := UInt64.toNat_inj.mp (by rw [UInt64.toNat_or, u_tn (by omega), u_tn (by omega), u_tn h, h1])
  have h2 := congrArg UInt64.toInt64 h3
  exact h2
theorem g_or' {k p a b : Nat} (hp : 2 ^ k = p) (ha : a < p) (h : a + b * p < 2 ^ 64) : lN a ||| lN (b * p) = lN (a + b * p) := by
  rw [Int64.or_comm, g_or hp ha (by omega), Nat.add_comm]
theorem pf_lI {a : Nat} (h : a < 2 ^ 63) : (lN a).toInt = (a : Int) := lg_ofNat_toInt h
theorem pf_shr {a d : Nat} {D : Int64} (hD : (D.toBitVec.smod 64).toNat = d) (h : a < 2 ^ 62) : lN a >>> D = lN (a / 2 ^ d) := by
  have hd : a / 2 ^ d ≤ a := Nat.div_le_self _ _
  apply Int64.toInt_inj.mp
  have e : (lN a >>> D).toInt = (lN a).toInt >>> d := by
    rw [← hD]
    exact BitVec.toInt_sshiftRight ..
  rw [e, Int.shiftRight_eq_div_pow, pf_lI (by omega), pf_lI (by omega)]
  rfl
theorem iI_of (x : Int32) : iI x.toInt = x := Int32.ofInt_toInt x
theorem rg_of (x : Int32) : rg x.toInt := ⟨Int32.le_toInt x, Int32.toInt_lt x⟩
def kl (cI cV cL : ClassId) : List (ClassId × FieldType) := [(cI, .int), (cV, .object "VillageLog$Village"), (cL, .long)]
theorem lI_nat (n : Nat) : lI (n : Int) = lN n := by
  apply Int64.toBitVec_inj.mp
  show BitVec.ofInt 64 (n : Int) = BitVec.ofNat 64 n
  exact BitVec.ofInt_natCast ..
theorem lI_shl {a q : Int} {k : Nat} (hk : k < 64) (hq : q = ((2 ^ k : Nat) : Int)) : lI a <<< ((nI k).toInt64 &&& 63) = lI (a * q) := by
  obtain ⟨n, hn, e⟩ := wb_of (lI a)
  rw [e, wb_shl n hk, ← lI_nat, show lI (a * q) = lI a * lI q from Int64.ofInt_mul _ _, e, ← lI_nat, hq, show lI (n : Int) * lI ((2 ^ k : Nat) : Int) = lI ((n : Int) * ((2 ^ k : Nat) : Int)) from (Int64.ofInt_mul _ _).symm]
  rw [show ((n * 2 ^ k : Nat) : Int) = (n : Int) * ((2 ^ k : Nat) : Int) from Int.natCast_mul ..]
theorem lI_and {a p q : Int} {s P : Nat} (ha : 0 ≤ a ∧ a < 4611686018427387904) (hP : 2 ^ s = P) (hs : s < 64) (h1 : 0 < P) (hq : q = (P : Int)) (hp : p = (P : Int) - 1) : lI a &&& lI p = lI (a % q) := by
  obtain ⟨n, rfl⟩ := Int.eq_ofNat_of_zero_le ha.1
  rw [show p = ((P - 1 : Nat) : Int) by omega, hq, lI_nat, lI_nat, g_mask hP hs (by omega), show (n : Int) % (P : Int) = ((n % P : Nat) : Int) from (Int.natCast_emod ..).symm, lI_nat]
theorem lI_shr {a q : Int} {k P : Nat} {D : Int64} (ha : 0 ≤ a ∧ a < 4611686018427387904) (hD : (D.toBitVec.smod 64).toNat = k) (hP : 2 ^ k = P) (hq : q = (P : Int)) : lI a >>> D = lI (a / q) := by
  obtain ⟨n, rfl⟩ := Int.eq_ofNat_of_zero_le ha.1
  rw [lI_nat, pf_shr hD (by omega), hP, hq, show (n : Int) / (P : Int) = ((n / P : Nat) : Int) from (Int.natCast_ediv ..).symm, lI_nat]
theorem lI_or {a b q : Int} {k P : Nat} (hP : 2 ^ k = P) (hq : q = (P : Int)) (ha : 0 ≤ a ∧ a < q) (hb : 0 ≤ b) (h : a + b * q < 4611686018427387904) : lI a ||| lI (b * q) = lI (a + b * q) := by
  subst hq
  obtain ⟨x, rfl⟩ := Int.eq_ofNat_of_zero_le ha.1
  obtain ⟨y, rfl⟩ := Int.eq_ofNat_of_zero_le hb
  have e : (y : Int) * (P : Int) = ((y * P : Nat) : Int) := (Int.natCast_mul ..).symm
  rw [e] at h ⊢
  rw [lI_nat, lI_nat, g_or' hP (by omega) (by omega), ← lI_nat, show ((x + y * P : Nat) : Int) = (x : Int) + ((y * P : Nat) : Int) from Int.natCast_add ..]
theorem cmp_0 {x y : Int64} : lg_cmp x y = 0 ↔ x = y := by
  unfold lg_cmp
  constructor
  · intro h
    split at h
    · cases h
    · split at h
      · assumption
      · cases h
  · intro h
    subst h
    simp
def arL (cL : ClassId) (n : Nat) (f : Nat → Int) : va_E := .inl (cL, n, .inr (.inl (fun i => lI (cut n f i))))
theorem arL_congr {cL : ClassId} {n : Nat} {f g : Nat → Int} (h : ∀ i, i < n → f i = g i) : arL cL n f = arL cL n g := by
  have hc : cut n f = cut n g := by
    funext i
    unfold cut
    split
    · exact h i (by assumption)
    · rfl
  unfold arL
  rw [hc]
theorem arL_upd {cL : ClassId} {n : Nat} {f : Nat → Int} {k : Nat} {x : Int} (hk : k < n) : (.inl (cL, n, .inr (.inl (vp_updL (fun i => lI (cut n f i)) k (lI x)))) : va_E) = arL cL n (up f k x) := by
  unfold arL
  have : vp_updL (fun i => lI (cut n f i)) k (lI x) = fun i => lI (cut n (up f k x) i) := by
    funext i
    unfold vp_updL cut up
    by_cases h : i = k
    · subst h
      simp [hk]
    · simp [h]
  rw [this]
/-- the law's rows of ints: g over the cells 0 to 7, v over 8 to 41 -/
def lw2 (cI : ClassId) (ga va : Nat) (m : Nat → Int) (post : va_W) : va_W := (ga, arI cI 8 m) :: (va, arI cI 34 (fun i => m (8 + i))) :: post
def ed2 (cL : ClassId) (ea da : Nat) (ev dv : Nat → Int) (post : va_W) : va_W := (ea, arL cL 60 ev) :: (da, arL cL 60 dv) :: post
theorem lw2_congr {cI : ClassId} {ga va : Nat} {m m' : Nat → Int} {post : va_W} (h : ∀ j, j < 42 → m j = m' j) : lw2 cI ga va m post = lw2 cI ga va m' post := by
  unfold lw2
  rw [arI_congr (f := m) (g := m') (fun i hi => h i (by omega)), arI_congr (f := fun i => m (8 + i)) (g := fun i => m' (8 + i)) (fun i hi => h (8 + i) (by omega))]
theorem lw2_g {cI : ClassId} {ga va : Nat} {m : Nat → Int} {post : va_W} {j : Nat} {x : Int} (hj : j < 8) : (lw2 cI ga va m post).set 0 (ga, arI cI 8 (up m j x)) = lw2 cI ga va (up m j x) post := by
  unfold lw2
  rw [arI_congr (f := fun i => up m j x (8 + i)) (g := fun i => m (8 + i)) (fun i hi => up_ne (by omega))]
  rfl
theorem lw2_v {cI : ClassId} {ga va : Nat} {m : Nat → Int} {post : va_W} {j : Nat} {x : Int} (hj : j < 34) : (lw2 cI ga va m post).set 1 (va, arI cI 34 (up (fun i => m (8 + i)) j x)) = lw2 cI ga va (up m (8 + j) x) post := by
  unfold lw2
  rw [arI_congr (f := up m (8 + j) x) (g := m) (fun i hi => up_ne (by omega)), arI_congr (f := fun i => up m (8 + j) x (8 + i)) (g := up (fun i => m (8 + i)) j x) (fun i hi => by
    unfold up
    by_cases h : i = j
    · rw [if_pos (by omega), if_pos h]
    · rw [if_neg (by omega), if_neg h])]
  rfl
section LB
variable {p : Program} {l : Launch} {e : Env} {R : Room} {s : State} {m : MethodId} {args : Array Value} {below : List Frame} {meth : Method} {c : Code} {H H0 : Heap} {locs : List Loc} {cells slots : Nat} {Q : State → Prop} {D : va_G} {cI cV cL : ClassId} {A : Nat → Prop}
variable {cc : ByteArray} {pc : Nat} {ls : Array Slot} {rest : List Value}
theorem j_lsub (hx : p.tables.exec = Jvm.exec) (hb : c.code = cc) {a b : Int} (hdg : decode cc pc = .ok (.lsub, 1)) (k : W p l e R s m args below meth c H locs cells slots Q (F0 m (pc + 1) ls (.long (lI (a - b)) :: rest))) : W p l e R s m args below meth c H locs cells slots Q (F0 m pc ls (.long (lI b) :: .long (lI a) :: rest)) := lv_lsub hx hb hdg (by rw [show lI a - lI b = lI (a - b) from (Int64.ofInt_sub _ _).symm]; exact k)
theorem j_land (hx : p.tables.exec = Jvm.exec) (hb : c.code = cc) {a p' q : Int} {s' P : Nat} (ha : 0 ≤ a ∧ a < 4611686018427387904) (hP : 2 ^ s' = P) (hs : s' < 64) (h1 : 0 < P) (hq : q = (P : Int)) (hp : p' = (P : Int) - 1) (hdg : decode cc pc = .ok (.land, 1)) (k : W p l e R s m args below meth c H locs cells slots Q (F0 m (pc + 1) ls (.long (lI (a % q)) :: rest))) : W p l e R s m args below meth c H locs cells slots Q (F0 m pc ls (.long (lI p') :: .long (lI a) :: rest)) := lv_land hx hb hdg (by rw [lI_and ha hP hs h1 hq hp]; exact k)
theorem j_lshl (hx : p.tables.exec = Jvm.exec) (hb : c.code = cc) {a q n : Int} {k' : Nat} (hk : k' < 64) (hq : q = ((2 ^ k' : Nat) : Int)) (hn : iI n = nI k') (hdg : decode cc pc = .ok (.lshl, 1)) (k : W p l e R s m args below meth c H locs cells slots Q (F0 m (pc + 1) ls (.long (lI (a * q)) :: rest))) : W p l e R s m args below meth c H locs cells slots Q (F0 m pc ls (.int (iI n) :: .long (lI a) :: rest)) := lv_lshl hx hb hdg (by rw [hn, lI_shl hk hq]) k
theorem j_lshr (hx : p.tables.exec = Jvm.exec) (hb : c.code = cc) {a q n : Int} {k' P : Nat} (ha : 0 ≤ a ∧ a < 4611686018427387904) (hD : (((iI n).toInt64 &&& 63).toBitVec.smod 64).toNat = k') (hP : 2 ^ k' = P) (hq : q = (P : Int)) (hdg : decode cc pc = .ok (.lshr, 1)) (k : W p l e R s m args below meth c H locs cells slots Q (F0 m (pc + 1) ls (.long (lI (a / q)) :: rest))) : W p l e R s m args below meth c H locs cells slots Q (F0 m pc ls (.int (iI n) :: .long (lI a) :: rest)) := lv_lshr hx hb hdg (lI_shr ha hD hP hq) k
theorem j_lor (hx : p.tables.exec = Jvm.exec) (hb : c.code = cc) {a b q : Int} {k' P : Nat} (hP : 2 ^ k' = P) (hq : q = (P : Int)) (ha : 0 ≤ a ∧ a < q) (hbb : 0 ≤ b) (h : a + b * q < 4611686018427387904) (hdg : decode cc pc = .ok (.lor, 1)) (k : W p l e R s m args below meth c H locs cells slots Q (F0 m (pc + 1) ls (.long (lI (a + b * q)) :: rest))) : W p l e R s m args below meth c H locs cells slots Q (F0 m pc ls (.long (lI (b * q)) :: .long (lI a) :: rest)) := lv_lor hx hb hdg (by rw [lI_or hP hq ha hbb h]; exact k)
theorem j_lcne (hx : p.tables.exec = Jvm.exec) (hb : c.code = cc) {a b : Int} (ha : rl a) (hbb : rl b) {off : Int} {tgt : Nat} (hdg : decode cc pc = .ok (.lcmp, 1)) (hdg2 : decode cc (pc + 1) = .ok (.ifCond .ne off, 3)) (ht : ((pc + 1 : Nat) : Int) + off = (tgt : Int)) (kt : a ≠ b → W p l e R s m args below meth c H locs cells slots Q (F0 m tgt ls rest)) (kf : a = b → W p l e R s m args below meth c H locs cells slots Q (F0 m (pc + 1 + 3) ls rest)) : W p l e R s m args below meth c H locs cells slots Q (F0 m pc ls (.long (lI b) :: .long (lI a) :: rest)) :=
  W.lcmp hx hb hdg (lv_if_ne hx hb hdg2 ht (fun h => kt (fun q => h (cmp_0.mpr (by rw [q])))) (fun h => kf ((lI_eq ha hbb).mp (cmp_0.mp (by simpa using h)))))
theorem j_any (hx : p.tables.exec = Jvm.exec) (hb : c.code = cc) {x : Int32} (k : W p l e R s m args below meth c H locs cells slots Q (F0 m pc ls (.int (iI x.toInt) :: rest))) : W p l e R s m args below meth c H locs cells slots Q (F0 m pc ls (.int x :: rest)) := by
  rw [iI_of] at k
  exact k
/-- an int's row read, at a place of the world -/
theorem Aia (hx : p.tables.exec = Jvm.exec) (hb : c.code = cc) (hK : va_K D vwCl (kl cI cV cL) s) {w : va_W} (hP : va_P D vwCl w H) (q0 : Nat) {a n j : Nat} {f : Nat → Int} (ha : w[q0]? = some (a, arI cI n f)) {i : Int} (hi : i = (j : Int)) (hj : j < n) (hn : n < 100) (hdg : decode cc pc = .ok (.iaload, 1)) (k : W p l e R s m args below meth c H locs cells slots Q (F0 m (pc + 1) ls (.int (iI (f j)) :: rest))) : W p l e R s m args below meth c H locs cells slots Q (F0 m pc ls (.int (iI i) :: .ref a :: rest)) := by
  subst hi
  refine va_iald hx hb hK hP q0 0 ha rfl (iI_in (n := n) (by omega) (by omega)) hdg ?_
  rw [iI_clamp ⟨by omega, by omega⟩, cut_at (by omega), Int.toNat_natCast]
  exact k
theorem Ala (hx : p.tables.exec = Jvm.exec) (hb : c.code = cc) (hK : va_K D vwCl (kl cI cV cL) s) {w : va_W} (hP : va_P D vwCl w H) (q0 : Nat) {a n j : Nat} {f : Nat → Int} (ha : w[q0]? = some (a, arL cL n f)) {i : Int} (hi : i = (j : Int)) (hj : j < n) (hn : n < 100) (hdg : decode cc pc = .ok (.laload, 1)) (k : W p l e R s m args below meth c H locs cells slots Q (F0 m (pc + 1) ls (.long (lI (f j)) :: rest))) : W p l e R s m args below meth c H locs cells slots Q (F0 m pc ls (.int (iI i) :: .ref a :: rest)) := by
  subst hi
  refine va_lald hx hb hK hP q0 2 ha rfl (iI_in (n := n) (by omega) (by omega)) hdg ?_
  rw [iI_clamp ⟨by omega, by omega⟩, cut_at (by omega), Int.toNat_natCast]
  exact k
theorem Gld (hx : p.tables.exec = Jvm.exec) (hb : c.code = cc) (hK : va_K D vwCl (kl cI cV cL) s) {ga va : Nat} {μ : Nat → Int} {post : va_W} (hP : va_P D vwCl (lw2 cI ga va μ post) H) {i : Int} (j : Nat) (hi : i = (j : Int)) (hj : j < 8) (hdg : decode cc pc = .ok (.iaload, 1)) (k : W p l e R s m args below meth c H locs cells slots Q (F0 m (pc + 1) ls (.int (iI (μ j)) :: rest))) : W p l e R s m args below meth c H locs cells slots Q (F0 m pc ls (.int (iI i) :: .ref ga :: rest)) :=
  Aia hx hb hK hP 0 rfl hi hj (by omega) hdg k
theorem Vld (hx : p.tables.exec = Jvm.exec) (hb : c.code = cc) (hK : va_K D vwCl (kl cI cV cL) s) {ga va : Nat} {μ : Nat → Int} {post : va_W} (hP : va_P D vwCl (lw2 cI ga va μ post) H) {i : Int} (j : Nat) (hi : 8 + i = (j : Int)) (hj : 8 ≤ j ∧ j < 42) (hdg : decode cc pc = .ok (.iaload, 1)) (k : W p l e R s m args below meth c H locs cells slots Q (F0 m (pc + 1) ls (.int (iI (μ j)) :: rest))) : W p l e R s m args below meth c H locs cells slots Q (F0 m pc ls (.int (iI i) :: .ref va :: rest)) :=
  Aia (j := j - 8) (f := fun i => μ (8 + i)) hx hb hK hP 1 rfl (by omega) (by omega) (by omega) hdg (by
    show W p l e R s m args below meth c H locs cells slots Q (F0 m (pc + 1) ls (.int (iI (μ (8 + (j - 8)))) :: rest))
    rw [show 8 + (j - 8) = j by omega]
    exact k)
theorem Gst (hx : p.tables.exec = Jvm.exec) (hb : c.code = cc) (hK : va_K D vwCl (kl cI cV cL) s) {ga va : Nat} {μ : Nat → Int} {post : va_W} (hW : Wd D A (lw2 cI ga va μ post) H0 H locs) {i x : Int} (j : Nat) (hi : i = (j : Int)) (hj : j < 8) (hdg : decode cc pc = .ok (.iastore, 1)) (k : ∀ (H1 : Heap) (locs1 : List Loc), Wd D A (lw2 cI ga va (up μ j x) post) H0 H1 locs1 → W p l e R s m args below meth c H1 locs1 cells slots Q (F0 m (pc + 1) ls rest)) : W p l e R s m args below meth c H locs cells slots Q (F0 m pc ls (.int (iI x) :: .int (iI i) :: .ref ga :: rest)) := by
  subst hi
  refine va_iast hx hb hK hW.1 hW.2.1 hW.2.2 0 0 (f := fun j => iI (cut 8 μ j)) rfl rfl (iI_in (n := 8) (by omega) (by omega)) hdg (fun H1 locs1 hP hD hS => k H1 locs1 ?_)
  rw [iI_clamp ⟨by omega, by omega⟩, Int.toNat_natCast, arI_upd hj, lw2_g hj] at hP hD
  exact ⟨hP, hD, hS⟩
theorem Vst (hx : p.tables.exec = Jvm.exec) (hb : c.code = cc) (hK : va_K D vwCl (kl cI cV cL) s) {ga va : Nat} {μ : Nat → Int} {post : va_W} (hW : Wd D A (lw2 cI ga va μ post) H0 H locs) {i x : Int} (j : Nat) (hi : 8 + i = (j : Int)) (hj : 8 ≤ j ∧ j < 42) (hdg : decode cc pc = .ok (.iastore, 1)) (k : ∀ (H1 : Heap) (locs1 : List Loc), Wd D A (lw2 cI ga va (up μ j x) post) H0 H1 locs1 → W p l e R s m args below meth c H1 locs1 cells slots Q (F0 m (pc + 1) ls rest)) : W p l e R s m args below meth c H locs cells slots Q (F0 m pc ls (.int (iI x) :: .int (iI i) :: .ref va :: rest)) := by
  obtain ⟨z, rfl⟩ : ∃ z, j = 8 + z := ⟨j - 8, by omega⟩
  obtain rfl : i = (z : Int) := by omega
  refine va_iast hx hb hK hW.1 hW.2.1 hW.2.2 1 0 (f := fun j => iI (cut 34 (fun i => μ (8 + i)) j)) rfl rfl (iI_in (n := 34) (by omega) (by omega)) hdg (fun H1 locs1 hP hD hS => k H1 locs1 ?_)
  rw [iI_clamp ⟨by omega, by omega⟩, Int.toNat_natCast, arI_upd (by omega), lw2_v (by omega)] at hP hD
  exact ⟨hP, hD, hS⟩
/-- a long's row at a place behind the rows of ints -/
theorem Lst (hx : p.tables.exec = Jvm.exec) (hb : c.code = cc) (hK : va_K D vwCl (kl cI cV cL) s) {w : va_W} (hW : Wd D A w H0 H locs) (q0 : Nat) {a : Nat} {f : Nat → Int} (ha : w[q0]? = some (a, arL cL 60 f)) {i x : Int} (j : Nat) (hi : i = (j : Int)) (hj : j < 60) (hdg : decode cc pc = .ok (.lastore, 1)) (w2 : va_W) (hw : w.set q0 (a, arL cL 60 (up f j x)) = w2) (k : ∀ (H1 : Heap) (locs1 : List Loc), Wd D A w2 H0 H1 locs1 → W p l e R s m args below meth c H1 locs1 cells slots Q (F0 m (pc + 1) ls rest)) : W p l e R s m args below meth c H locs cells slots Q (F0 m pc ls (.long (lI x) :: .int (iI i) :: .ref a :: rest)) := by
  subst hi hw
  refine va_last hx hb hK hW.1 hW.2.1 hW.2.2 q0 2 (f := fun j => lI (cut 60 f j)) ha rfl (iI_in (n := 60) (by omega) (by omega)) hdg (fun H1 locs1 hP hD hS => k H1 locs1 ?_)
  rw [iI_clamp ⟨by omega, by omega⟩, Int.toNat_natCast, arL_upd hj] at hP hD
  exact ⟨hP, hD, hS⟩
end LB
def PL (l : Launch) (y : MethodName) (ws : List Cond) (f k : Nat) (av : List Value) (w : va_W) (D : va_G) (cI cV cL : ClassId) (v : Option Value) : Prop := Met l y ws (rmK f k) (va_Pc av (fun U => va_P D vwCl w U.heap ∧ va_K D vwCl (kl cI cV cL) U)) (pQ v) 0 0 (fun _ => False)
theorem PL.of {l : Launch} {y : MethodName} {ws ws' : List Cond} {f k : Nat} {av : List Value} {w : va_W} {D : va_G} {cI cV cL : ClassId} {v : Option Value} {cc : ByteArray} {maxL : Nat} {ret : Option FieldType} (hy : plainName y.cls = true) (hw : ws = Cond.code y cc maxL ret :: ws') (hn : (lg_sl av).length ≤ maxL)
    (body : ∀ (p : Program) (e : Env) (s0 : State) (m : MethodId) (below : List Frame) (meth : Method) (c : Code) (ls : Array Slot), p.tables.exec = Jvm.exec → c.code = cc → meth.sig.returnType = ret → (∀ w ∈ ws, w.before av.toArray s0 = true) → s0.vm.findClass y.cls = some m.cls → meth.locks = false → c.maxLocals = maxL → va_P D vwCl w s0.heap → va_K D vwCl (kl cI cV cL) s0 → lv_has ls maxL (lv_args 0 av) →
      W p l e (headSpec ws (rmK f k)).room s0 m av.toArray below meth c s0.heap [] 0 0 (MQ below (pQ v) av.toArray s0 0 0 (fun _ => False)) (F0 m 0 ls [])) : PL l y ws f k av w D cI cV cL v := by
  refine Met.ofW (cc := cc) (maxL := maxL) (ret := ret) hy hw ?_
  intro p e s m args below meth c s₁ B hml hv
  obtain ⟨rfl, hP, hK⟩ := hv
  rw [lg_entry_eq]
  exact body p e s m below meth c _ B.exec B.bytes B.returns (atoms_spec (ws := ws) B.pre) (findClass_of_methodNamed B.named) B.notSynchronized hml hP hK (lv_entry av hn)
def mR (D : va_G) (v : Option Value) (RR : va_W → Prop) (A : Nat → Prop) : Array Value → State → Outcome → State → Prop := fun _ st oc t => (oc = .returned v ∧ ∃ w', RR w' ∧ va_P D vwCl w' t.heap) ∧ va_F A st t
def ML (l : Launch) (y : MethodName) (ws : List Cond) (f k : Nat) (av : List Value) (w : va_W) (RR : va_W → Prop) (D : va_G) (cI cV cL : ClassId) (v : Option Value) : Prop := Met l y ws (rmK f k) (va_Pc av (fun U => va_P D vwCl w U.heap ∧ va_D (fun _ => True) w ∧ va_K D vwCl (kl cI cV cL) U)) (mR D v RR (ad w)) 0 0 (ad w)
theorem ML.of {l : Launch} {y : MethodName} {ws ws' : List Cond} {f k : Nat} {av : List Value} {w : va_W} {RR : va_W → Prop} {D : va_G} {cI cV cL : ClassId} {v : Option Value} {cc : ByteArray} {maxL : Nat} {ret : Option FieldType} (hy : plainName y.cls = true) (hw : ws = Cond.code y cc maxL ret :: ws') (hn : (lg_sl av).length ≤ maxL)
    (body : ∀ (p : Program) (e : Env) (s0 : State) (m : MethodId) (below : List Frame) (meth : Method) (c : Code) (ls : Array Slot), p.tables.exec = Jvm.exec → c.code = cc → meth.sig.returnType = ret → (∀ w ∈ ws, w.before av.toArray s0 = true) → s0.vm.findClass y.cls = some m.cls → meth.locks = false → c.maxLocals = maxL → Wd D (ad w) w s0.heap s0.heap [] → va_K D vwCl (kl cI cV cL) s0 → lv_has ls maxL (lv_args 0 av) →
      W p l e (headSpec ws (rmK f k)).room s0 m av.toArray below meth c s0.heap [] 0 0 (MQ below (mR D v RR (ad w)) av.toArray s0 0 0 (ad w)) (F0 m 0 ls [])) : ML l y ws f k av w RR D cI cV cL v := by
  refine Met.ofW (cc := cc) (maxL := maxL) (ret := ret) hy hw ?_
  intro p e s m args below meth c s₁ B hml hv
  obtain ⟨rfl, hP, hD, hK⟩ := hv
  rw [lg_entry_eq]
  exact body p e s m below meth c _ B.exec B.bytes B.returns (atoms_spec (ws := ws) B.pre) (findClass_of_methodNamed B.named) B.notSynchronized hml ⟨hP, ⟨hD.1, fun k q hq => List.mem_map_of_mem (List.mem_of_getElem? hq)⟩, va_S.rf⟩ hK (lv_entry av hn)
section CO
variable {p : Program} {l : Launch} {e : Env} {R : Room} {s0 : State} {m : MethodId} {args : Array Value} {below : List Frame} {meth : Method} {c : Code} {H H0 : Heap} {locs : List Loc} {cells slots : Nat} {Q : State → Prop} {D : va_G} {cI cV cL : ClassId} {Ts : List Cond} {A : Nat → Prop}
variable {cc : ByteArray} {pc : Nat} {ls : Array Slot} {rest : List Value}
theorem e_iret {w w2 : va_W} {RR : va_W → Prop} (hx : p.tables.exec = Jvm.exec) (hb : c.code = cc) (hr : meth.sig.returnType = some .int) (hlocks : meth.locks = false) (hW : Wd D (ad w) w2 s0.heap H locs) (hw : RR w2) {a b : Int} (he : a = b) (hdg : decode cc pc = .ok (.ireturn, 1)) : W p l e R s0 m args below meth c H locs 0 0 (MQ below (mR D (some (.int (iI b))) RR (ad w)) args s0 0 0 (ad w)) (F0 m pc ls [.int (iI a)]) := by
  subst he
  exact W.iret hx hb hr (fun t ht hWm => ⟨⟨rfl, w2, hw, ht ▸ hW.1⟩, hW.2.2.F ht⟩) hW.2.2.2.2 hdg hlocks
theorem e_zret {w w2 : va_W} {RR : va_W → Prop} (hx : p.tables.exec = Jvm.exec) (hb : c.code = cc) (hr : meth.sig.returnType = some .boolean) (hlocks : meth.locks = false) (hW : Wd D (ad w) w2 s0.heap H locs) (hw : RR w2) {a b : Int} (h01 : a = 0 ∨ a = 1) (he : a = b) (hdg : decode cc pc = .ok (.ireturn, 1)) : W p l e R s0 m args below meth c H locs 0 0 (MQ below (mR D (some (.int (iI b))) RR (ad w)) args s0 0 0 (ad w)) (F0 m pc ls [.int (iI a)]) := by
  subst he
  exact W.zret hx hb hr (by rcases h01 with h | h <;> subst h <;> decide +kernel) (fun t ht hWm => ⟨⟨rfl, w2, hw, ht ▸ hW.1⟩, hW.2.2.F ht⟩) hW.2.2.2.2 hdg hlocks
theorem e_vret {w w2 : va_W} {RR : va_W → Prop} (hx : p.tables.exec = Jvm.exec) (hb : c.code = cc) (hr : meth.sig.returnType = none) (hlocks : meth.locks = false) (hW : Wd D (ad w) w2 s0.heap H locs) (hw : RR w2) (hdg : decode cc pc = .ok (.return_, 1)) : W p l e R s0 m args below meth c H locs 0 0 (MQ below (mR D none RR (ad w)) args s0 0 0 (ad w)) (F0 m pc ls []) := by
  exact W.vret hx hb hr (fun t ht hWm => ⟨⟨rfl, w2, hw, ht ▸ hW.1⟩, hW.2.2.F ht⟩) hW.2.2.2.2 hdg hlocks
theorem plc_blind {av : List Value} {w : va_W} : FrameBlind (va_Pc av (fun U => va_P D vwCl w U.heap ∧ va_K D vwCl (kl cI cV cL) U)) := fun a U g mk q => by
  obtain ⟨q0, qP, qK⟩ := q
  exact ⟨q0, qP, va_K.moved (u := U) (U := U.calling g mk a) (Vm.Alike.refl U.vm) qK⟩
theorem mlc_blind {av : List Value} {w : va_W} : FrameBlind (va_Pc av (fun U => va_P D vwCl w U.heap ∧ va_D (fun _ => True) w ∧ va_K D vwCl (kl cI cV cL) U)) := fun a U g mk q => by
  obtain ⟨q0, qP, qD, qK⟩ := q
  exact ⟨q0, qP, qD, va_K.moved (u := U) (U := U.calling g mk a) (Vm.Alike.refl U.vm) qK⟩
theorem pl_callS {y : MethodName} {wy wy' : List Cond} {f k n index nL maxL : Nat} {As st : List Value} {v : Value} {bytes : ByteArray} {ret : Option FieldType} {own : String} {w : va_W} (S : CallFix p m c cc nL s0 args Ts own) (hK : va_K D vwCl (kl cI cV cL) s0) (hM : PL l y wy f k As w D cI cV cL (some v)) (hP : va_P D vwCl w H)
    (hG : GoodIn Ts (va_wsS own index y wy)) (hw : wy = .code y bytes maxL ret :: wy') (hd : y.cls ≠ "java/lang/invoke/MethodHandle" ∧ y.cls ≠ "java/lang/invoke/VarHandle" ∧ (parseMethodDescriptor y.desc).map (fun d => d.parameters.length) = some n) (hR : f + 1 ≤ R.frames ∧ 8 + (maxL + 11) + k ≤ R.locals) (hn : As.length = n) (hsz : ls.size = nL) (hcat : (rest.map fun v => v.category).sum ≤ 8) (hdg : decode cc pc = .ok (.invokestatic index, 3)) (hcs : cells ≤ R.cells ∧ slots ≤ R.slots) (hst : st = As.reverse ++ rest)
    (kk : W p l e R s0 m args below meth c H locs cells slots Q (F0 m (pc + 3) ls (v :: rest))) : W p l e R s0 m args below meth c H locs cells slots Q (F0 m pc ls st) := by
  intro T hT X
  obtain ⟨v', st₀, t, T', L, h0, X', hL, e1, e2, ⟨hv, hh⟩, st⟩ := va_runS (g := F0 m pc ls st) (rest := rest) S hM (va_cwS n S.2.2.2.2 hG hw rfl rfl hd hR) ⟨plc_blind, fun U hU hWm => ⟨rfl, by rw [hU]; exact hP, hK.moved hWm.alike⟩⟩ rfl hn hsz hst (lv_room (pc := pc) (ls := ls) (rest := st) hcat) hdg hcs T hT X
  cases hv
  obtain ⟨t2, a1, b1⟩ := kk T' (by rw [e1, hh, h0]) (Stand.forget X' (fun q h => (hL q h).elim))
  exact ⟨t2, st t2 a1, b1⟩
theorem e_callS {y : MethodName} {wy wy' : List Cond} {f k n index nL maxL : Nat} {As st st2 : List Value} {v : Option Value} {bytes : ByteArray} {ret : Option FieldType} {own : String} {w pre post wc : va_W} {RR : va_W → Prop} (S : CallFix p m c cc nL s0 args Ts own) (hK : va_K D vwCl (kl cI cV cL) s0) (hW : Wd D A w H0 H locs) (hM : ML l y wy f k As wc RR D cI cV cL v) (hw1 : w = pre ++ (wc ++ post)) (hf : ∀ w', RR w' → w'.map Prod.fst = wc.map Prod.fst)
    (hG : GoodIn Ts (va_wsS own index y wy)) (hw : wy = .code y bytes maxL ret :: wy') (hd : y.cls ≠ "java/lang/invoke/MethodHandle" ∧ y.cls ≠ "java/lang/invoke/VarHandle" ∧ (parseMethodDescriptor y.desc).map (fun d => d.parameters.length) = some n) (hR : f + 1 ≤ R.frames ∧ 8 + (maxL + 11) + k ≤ R.locals) (hn : As.length = n) (hsz : ls.size = nL) (hcat : (rest.map fun v => v.category).sum ≤ 8) (hdg : decode cc pc = .ok (.invokestatic index, 3)) (hcs : cells ≤ R.cells ∧ slots ≤ R.slots) (hst : st = As.reverse ++ rest) (hst2 : v.toList ++ rest = st2)
    (kk : ∀ (w' : va_W) (H1 : Heap) (locs1 : List Loc), RR w' → Wd D A (pre ++ (w' ++ post)) H0 H1 locs1 → W p l e R s0 m args below meth c H1 locs1 cells slots Q (F0 m (pc + 3) ls st2)) : W p l e R s0 m args below meth c H locs cells slots Q (F0 m pc ls st) := by
  subst hw1
  subst hst2
  have hP := hW.1.mid
  have hD := hW.2.1.mid
  have hAd : ∀ q, ad wc q → A q := fun q hq => by
    obtain ⟨q', hq', he⟩ := List.mem_map.mp hq
    obtain ⟨i, hi⟩ := List.getElem?_of_mem hq'
    exact he ▸ hD.2 i q' hi
  intro T hT X
  obtain ⟨v', st₀, t, T', L, h0, X', hL, e1, e2, ⟨⟨hv, w', hRR, hP1⟩, hz, hk⟩, st⟩ := va_runS (g := F0 m pc ls st) (rest := rest) S hM (va_cwS n S.2.2.2.2 hG hw rfl rfl hd hR) ⟨mlc_blind, fun U hU hWm => ⟨rfl, by rw [hU]; exact hP, hD.weaken (fun _ _ _ _ => trivial), hK.moved hWm.alike⟩⟩ rfl hn hsz hst (lv_room (pc := pc) (ls := ls) (rest := st) hcat) hdg hcs T hT X
  cases hv
  rw [h0] at hz hk
  rw [← e1] at hP1 hz hk
  have hS := hW.2.2
  have hS1 : va_S A H0 T'.heap (locs ++ L) := ⟨Nat.le_trans hS.1 hz, fun q h1 h2 => by rw [hk q (Nat.lt_of_lt_of_le h1 hS.1) (fun z => h2 (hAd q z))]; exact hS.2.1 q h1 h2, fun q hq => by
    rcases List.mem_append.mp hq with h | h
    · exact hS.2.2 q h
    · exact hAd _ (hL q h)⟩
  obtain ⟨t2, a1, b1⟩ := kk w' T'.heap (locs ++ L) hRR (hW.frame (hf w' hRR) hP1 hk hS1) T' rfl X'
  exact ⟨t2, st t2 a1, b1⟩
end CO
