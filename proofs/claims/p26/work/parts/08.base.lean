/-! numbers: a machine int is named by a whole number -/
def iI (n : Int) : Int32 := Int32.ofInt n
abbrev rg (a : Int) : Prop := -2147483648 ≤ a ∧ a < 2147483648
theorem iI_toInt {a : Int} (h : rg a) : (iI a).toInt = a := Int32.toInt_ofInt_of_le h.1 h.2
theorem iI_add (a b : Int) : iI a + iI b = iI (a + b) := (Int32.ofInt_add a b).symm
theorem iI_sub (a b : Int) : iI a - iI b = iI (a - b) := (Int32.ofInt_sub a b).symm
theorem iI_mul (a b : Int) : iI a * iI b = iI (a * b) := (Int32.ofInt_mul a b).symm
theorem iI_le {a b : Int} (ha : rg a) (hb : rg b) : iI a ≤ iI b ↔ a ≤ b := by rw [Int32.le_iff_toInt_le, iI_toInt ha, iI_toInt hb]
theorem iI_lt {a b : Int} (ha : rg a) (hb : rg b) : iI a < iI b ↔ a < b := by rw [Int32.lt_iff_toInt_lt, iI_toInt ha, iI_toInt hb]
theorem iI_eq {a b : Int} (ha : rg a) (hb : rg b) : iI a = iI b ↔ a = b := by rw [← Int32.toInt_inj, iI_toInt ha, iI_toInt hb]
theorem iI_0 : iI 0 = 0 := rfl
theorem iI_clamp {a : Int} (h : rg a) : (iI a).toNatClampNeg = a.toNat := Int32.toNatClampNeg_ofInt_of_le h.1 h.2
theorem rg_0 : rg 0 := by decide
theorem iI_div {a b : Int} (ha : 0 ≤ a ∧ a < 2147483648) (hb : 0 < b ∧ b < 2147483648) : iI a / iI b = iI (a / b) := by
  apply Int32.toInt_inj.mp
  have hd : a / b ≤ a := Int.ediv_le_self b ha.1
  have hd0 : 0 ≤ a / b := Int.ediv_nonneg ha.1 (by omega)
  rw [Int32.toInt_div_of_ne_right, iI_toInt ⟨by omega, by omega⟩, iI_toInt ⟨by omega, by omega⟩, iI_toInt ⟨by omega, by omega⟩, Int.tdiv_eq_ediv_of_nonneg ha.1]
  intro h
  have h2 : (iI b).toInt = (-1 : Int32).toInt := by rw [h]
  rw [iI_toInt ⟨by omega, by omega⟩] at h2
  have h3 : (-1 : Int32).toInt = -1 := by decide
  omega
theorem iI_rem {a b : Int} (ha : 0 ≤ a ∧ a < 2147483648) (hb : 0 < b ∧ b < 2147483648) : iI a - iI a / iI b * iI b = iI (a % b) := by
  rw [iI_div ha hb, iI_mul, iI_sub, Int.emod_def, Int.mul_comm]
theorem iI_in {a : Int} {n : Nat} (h : 0 ≤ a ∧ a < n) (hn : n < 2147483648) : vp_in (iI a) n := by
  have hr : rg a := ⟨by omega, by omega⟩
  rintro (h1 | h1)
  · rw [← iI_0, iI_lt hr rg_0] at h1
    omega
  · rw [iI_clamp hr] at h1
    omega
def b2i (P : Prop) [Decidable P] : Int := if P then 1 else 0
theorem b2i_t {P : Prop} [Decidable P] (h : P) : b2i P = 1 := if_pos h
theorem b2i_f {P : Prop} [Decidable P] (h : ¬ P) : b2i P = 0 := if_neg h
theorem b2i_rg {P : Prop} [Decidable P] : 0 ≤ b2i P ∧ b2i P ≤ 1 := by
  unfold b2i
  split <;> omega
def up (f : Nat → Int) (k : Nat) (v : Int) : Nat → Int := fun j => if j = k then v else f j
theorem up_at {f : Nat → Int} {k j : Nat} {v : Int} (h : j = k) : up f k v j = v := if_pos h
theorem up_ne {f : Nat → Int} {k j : Nat} {v : Int} (h : j ≠ k) : up f k v j = f j := if_neg h
def cut (n : Nat) (f : Nat → Int) : Nat → Int := fun i => if i < n then f i else 0
theorem cut_at {n i : Nat} {f : Nat → Int} (h : i < n) : cut n f i = f i := if_pos h
/-- an array of ints -/
def arI (cI : ClassId) (n : Nat) (f : Nat → Int) : va_E := .inl (cI, n, .inl (fun i => iI (cut n f i)))
theorem arI_congr {cI : ClassId} {n : Nat} {f g : Nat → Int} (h : ∀ i, i < n → f i = g i) : arI cI n f = arI cI n g := by
  have hc : cut n f = cut n g := by
    funext i
    unfold cut
    split
    · exact h i (by assumption)
    · rfl
  unfold arI
  rw [hc]
theorem arI_upd {cI : ClassId} {n : Nat} {f : Nat → Int} {k : Nat} {x : Int} (hk : k < n) : (.inl (cI, n, .inl (upd (fun i => iI (cut n f i)) k (iI x))) : va_E) = arI cI n (up f k x) := by
  unfold arI
  have : upd (fun i => iI (cut n f i)) k (iI x) = fun i => iI (cut n (up f k x) i) := by
    funext i
    unfold upd cut up
    by_cases h : i = k
    · subst h
      simp [hk]
    · simp [h]
  rw [this]
section BS
variable {p : Program} {l : Launch} {e : Env} {R : Room} {s : State} {m : MethodId} {args : Array Value} {below : List Frame} {meth : Method} {c : Code} {H : Heap} {locs : List Loc} {cells slots : Nat} {Q : State → Prop}
variable {cc : ByteArray} {pc : Nat} {ls : Array Slot} {rest : List Value}
theorem j_c (hx : p.tables.exec = Jvm.exec) (hb : c.code = cc) {n : Int} (hdg : decode cc pc = .ok (.iconst n, 1)) (k : W p l e R s m args below meth c H locs cells slots Q (F0 m (pc + 1) ls (.int (iI n) :: rest))) : W p l e R s m args below meth c H locs cells slots Q (F0 m pc ls (rest)) := lv_iconst hx hb hdg rfl k
theorem j_bi (hx : p.tables.exec = Jvm.exec) (hb : c.code = cc) {n : Int} (hdg : decode cc pc = .ok (.bipush n, 2)) (hn : (Int8.ofInt n).toInt32 = iI n) (k : W p l e R s m args below meth c H locs cells slots Q (F0 m (pc + 2) ls (.int (iI n) :: rest))) : W p l e R s m args below meth c H locs cells slots Q (F0 m pc ls (rest)) := lv_bipush hx hb hdg hn k
theorem j_si (hx : p.tables.exec = Jvm.exec) (hb : c.code = cc) {n : Int} (hdg : decode cc pc = .ok (.sipush n, 3)) (hn : (Int16.ofInt n).toInt32 = iI n) (k : W p l e R s m args below meth c H locs cells slots Q (F0 m (pc + 3) ls (.int (iI n) :: rest))) : W p l e R s m args below meth c H locs cells slots Q (F0 m pc ls (rest)) := lv_sipush hx hb hdg hn k
theorem j_add (hx : p.tables.exec = Jvm.exec) (hb : c.code = cc) {a b : Int} (hdg : decode cc pc = .ok (.iadd, 1)) (k : W p l e R s m args below meth c H locs cells slots Q (F0 m (pc + 1) ls (.int (iI (a + b)) :: rest))) : W p l e R s m args below meth c H locs cells slots Q (F0 m pc ls (.int (iI b) :: .int (iI a) :: rest)) := lv_iadd hx hb hdg (by rw [iI_add]; exact k)
theorem j_sub (hx : p.tables.exec = Jvm.exec) (hb : c.code = cc) {a b : Int} (hdg : decode cc pc = .ok (.isub, 1)) (k : W p l e R s m args below meth c H locs cells slots Q (F0 m (pc + 1) ls (.int (iI (a - b)) :: rest))) : W p l e R s m args below meth c H locs cells slots Q (F0 m pc ls (.int (iI b) :: .int (iI a) :: rest)) := lv_isub hx hb hdg (by rw [iI_sub]; exact k)
theorem j_mul (hx : p.tables.exec = Jvm.exec) (hb : c.code = cc) {a b : Int} (hdg : decode cc pc = .ok (.imul, 1)) (k : W p l e R s m args below meth c H locs cells slots Q (F0 m (pc + 1) ls (.int (iI (a * b)) :: rest))) : W p l e R s m args below meth c H locs cells slots Q (F0 m pc ls (.int (iI b) :: .int (iI a) :: rest)) := lv_imul hx hb hdg (by rw [iI_mul]; exact k)
theorem j_div (hx : p.tables.exec = Jvm.exec) (hb : c.code = cc) {a b : Int} (ha : 0 ≤ a ∧ a < 2147483648) (hbb : 0 < b ∧ b < 2147483648) (hdg : decode cc pc = .ok (.idiv, 1)) (k : W p l e R s m args below meth c H locs cells slots Q (F0 m (pc + 1) ls (.int (iI (a / b)) :: rest))) : W p l e R s m args below meth c H locs cells slots Q (F0 m pc ls (.int (iI b) :: .int (iI a) :: rest)) := lv_idiv hx hb hdg (fun h => by rw [← iI_0, iI_eq ⟨by omega, by omega⟩ rg_0] at h; omega) (by rw [iI_div ha hbb]; exact k)
theorem j_rem (hx : p.tables.exec = Jvm.exec) (hb : c.code = cc) {a b : Int} (ha : 0 ≤ a ∧ a < 2147483648) (hbb : 0 < b ∧ b < 2147483648) (hdg : decode cc pc = .ok (.irem, 1)) (k : W p l e R s m args below meth c H locs cells slots Q (F0 m (pc + 1) ls (.int (iI (a % b)) :: rest))) : W p l e R s m args below meth c H locs cells slots Q (F0 m pc ls (.int (iI b) :: .int (iI a) :: rest)) := lv_irem hx hb hdg (fun h => by rw [← iI_0, iI_eq ⟨by omega, by omega⟩ rg_0] at h; omega) (by rw [iI_rem ha hbb]; exact k)
theorem j_ige (hx : p.tables.exec = Jvm.exec) (hb : c.code = cc) {a b : Int} (ha : rg a) (hbb : rg b) {off : Int} {tgt : Nat} (hdg : decode cc pc = .ok (.if_icmp .ge off, 3)) (ht : (pc : Int) + off = (tgt : Int)) (kt : b ≤ a → W p l e R s m args below meth c H locs cells slots Q (F0 m tgt ls (rest))) (kf : a < b → W p l e R s m args below meth c H locs cells slots Q (F0 m (pc + 3) ls (rest))) : W p l e R s m args below meth c H locs cells slots Q (F0 m pc ls (.int (iI b) :: .int (iI a) :: rest)) :=
  lv_icmp_ge hx hb hdg ht (fun h => kt (by simp only [iI_le ha hbb, iI_lt ha hbb, iI_le hbb ha, iI_lt hbb ha, iI_eq ha hbb, iI_eq hbb ha, ne_eq] at h; omega)) (fun h => kf (by simp only [iI_le ha hbb, iI_lt ha hbb, iI_le hbb ha, iI_lt hbb ha, iI_eq ha hbb, iI_eq hbb ha, ne_eq] at h; omega))
theorem j_ilt (hx : p.tables.exec = Jvm.exec) (hb : c.code = cc) {a b : Int} (ha : rg a) (hbb : rg b) {off : Int} {tgt : Nat} (hdg : decode cc pc = .ok (.if_icmp .lt off, 3)) (ht : (pc : Int) + off = (tgt : Int)) (kt : a < b → W p l e R s m args below meth c H locs cells slots Q (F0 m tgt ls (rest))) (kf : b ≤ a → W p l e R s m args below meth c H locs cells slots Q (F0 m (pc + 3) ls (rest))) : W p l e R s m args below meth c H locs cells slots Q (F0 m pc ls (.int (iI b) :: .int (iI a) :: rest)) :=
  lv_icmp_lt hx hb hdg ht (fun h => kt (by simp only [iI_le ha hbb, iI_lt ha hbb, iI_le hbb ha, iI_lt hbb ha, iI_eq ha hbb, iI_eq hbb ha, ne_eq] at h; omega)) (fun h => kf (by simp only [iI_le ha hbb, iI_lt ha hbb, iI_le hbb ha, iI_lt hbb ha, iI_eq ha hbb, iI_eq hbb ha, ne_eq] at h; omega))
theorem j_igt (hx : p.tables.exec = Jvm.exec) (hb : c.code = cc) {a b : Int} (ha : rg a) (hbb : rg b) {off : Int} {tgt : Nat} (hdg : decode cc pc = .ok (.if_icmp .gt off, 3)) (ht : (pc : Int) + off = (tgt : Int)) (kt : b < a → W p l e R s m args below meth c H locs cells slots Q (F0 m tgt ls (rest))) (kf : a ≤ b → W p l e R s m args below meth c H locs cells slots Q (F0 m (pc + 3) ls (rest))) : W p l e R s m args below meth c H locs cells slots Q (F0 m pc ls (.int (iI b) :: .int (iI a) :: rest)) :=
  lv_icmp_gt hx hb hdg ht (fun h => kt (by simp only [iI_le ha hbb, iI_lt ha hbb, iI_le hbb ha, iI_lt hbb ha, iI_eq ha hbb, iI_eq hbb ha, ne_eq] at h; omega)) (fun h => kf (by simp only [iI_le ha hbb, iI_lt ha hbb, iI_le hbb ha, iI_lt hbb ha, iI_eq ha hbb, iI_eq hbb ha, ne_eq] at h; omega))
theorem j_ile (hx : p.tables.exec = Jvm.exec) (hb : c.code = cc) {a b : Int} (ha : rg a) (hbb : rg b) {off : Int} {tgt : Nat} (hdg : decode cc pc = .ok (.if_icmp .le off, 3)) (ht : (pc : Int) + off = (tgt : Int)) (kt : a ≤ b → W p l e R s m args below meth c H locs cells slots Q (F0 m tgt ls (rest))) (kf : b < a → W p l e R s m args below meth c H locs cells slots Q (F0 m (pc + 3) ls (rest))) : W p l e R s m args below meth c H locs cells slots Q (F0 m pc ls (.int (iI b) :: .int (iI a) :: rest)) :=
  lv_icmp_le hx hb hdg ht (fun h => kt (by simp only [iI_le ha hbb, iI_lt ha hbb, iI_le hbb ha, iI_lt hbb ha, iI_eq ha hbb, iI_eq hbb ha, ne_eq] at h; omega)) (fun h => kf (by simp only [iI_le ha hbb, iI_lt ha hbb, iI_le hbb ha, iI_lt hbb ha, iI_eq ha hbb, iI_eq hbb ha, ne_eq] at h; omega))
theorem j_ieq (hx : p.tables.exec = Jvm.exec) (hb : c.code = cc) {a b : Int} (ha : rg a) (hbb : rg b) {off : Int} {tgt : Nat} (hdg : decode cc pc = .ok (.if_icmp .eq off, 3)) (ht : (pc : Int) + off = (tgt : Int)) (kt : a = b → W p l e R s m args below meth c H locs cells slots Q (F0 m tgt ls (rest))) (kf : a ≠ b → W p l e R s m args below meth c H locs cells slots Q (F0 m (pc + 3) ls (rest))) : W p l e R s m args below meth c H locs cells slots Q (F0 m pc ls (.int (iI b) :: .int (iI a) :: rest)) :=
  lv_icmp_eq hx hb hdg ht (fun h => kt (by simp only [iI_le ha hbb, iI_lt ha hbb, iI_le hbb ha, iI_lt hbb ha, iI_eq ha hbb, iI_eq hbb ha, ne_eq] at h; omega)) (fun h => kf (by simp only [iI_le ha hbb, iI_lt ha hbb, iI_le hbb ha, iI_lt hbb ha, iI_eq ha hbb, iI_eq hbb ha, ne_eq] at h; omega))
theorem j_ine (hx : p.tables.exec = Jvm.exec) (hb : c.code = cc) {a b : Int} (ha : rg a) (hbb : rg b) {off : Int} {tgt : Nat} (hdg : decode cc pc = .ok (.if_icmp .ne off, 3)) (ht : (pc : Int) + off = (tgt : Int)) (kt : a ≠ b → W p l e R s m args below meth c H locs cells slots Q (F0 m tgt ls (rest))) (kf : a = b → W p l e R s m args below meth c H locs cells slots Q (F0 m (pc + 3) ls (rest))) : W p l e R s m args below meth c H locs cells slots Q (F0 m pc ls (.int (iI b) :: .int (iI a) :: rest)) :=
  lv_icmp_ne hx hb hdg ht (fun h => kt (by simp only [iI_le ha hbb, iI_lt ha hbb, iI_le hbb ha, iI_lt hbb ha, iI_eq ha hbb, iI_eq hbb ha, ne_eq] at h; omega)) (fun h => kf (by simp only [iI_le ha hbb, iI_lt ha hbb, iI_le hbb ha, iI_lt hbb ha, iI_eq ha hbb, iI_eq hbb ha, ne_eq] at h; omega))
theorem j_zlt (hx : p.tables.exec = Jvm.exec) (hb : c.code = cc) {a : Int} (ha : rg a) {off : Int} {tgt : Nat} (hdg : decode cc pc = .ok (.ifCond .lt off, 3)) (ht : (pc : Int) + off = (tgt : Int)) (kt : a < 0 → W p l e R s m args below meth c H locs cells slots Q (F0 m tgt ls (rest))) (kf : 0 ≤ a → W p l e R s m args below meth c H locs cells slots Q (F0 m (pc + 3) ls (rest))) : W p l e R s m args below meth c H locs cells slots Q (F0 m pc ls (.int (iI a) :: rest)) :=
  lv_if_lt hx hb hdg ht (fun h => kt (by rw [← iI_0] at h; simp only [iI_le ha rg_0, iI_lt ha rg_0, iI_le rg_0 ha, iI_lt rg_0 ha, iI_eq ha rg_0, iI_eq rg_0 ha, ne_eq] at h; omega)) (fun h => kf (by rw [← iI_0] at h; simp only [iI_le ha rg_0, iI_lt ha rg_0, iI_le rg_0 ha, iI_lt rg_0 ha, iI_eq ha rg_0, iI_eq rg_0 ha, ne_eq] at h; omega))
theorem j_zgt (hx : p.tables.exec = Jvm.exec) (hb : c.code = cc) {a : Int} (ha : rg a) {off : Int} {tgt : Nat} (hdg : decode cc pc = .ok (.ifCond .gt off, 3)) (ht : (pc : Int) + off = (tgt : Int)) (kt : 0 < a → W p l e R s m args below meth c H locs cells slots Q (F0 m tgt ls (rest))) (kf : a ≤ 0 → W p l e R s m args below meth c H locs cells slots Q (F0 m (pc + 3) ls (rest))) : W p l e R s m args below meth c H locs cells slots Q (F0 m pc ls (.int (iI a) :: rest)) :=
  lv_if_gt hx hb hdg ht (fun h => kt (by rw [← iI_0] at h; simp only [iI_le ha rg_0, iI_lt ha rg_0, iI_le rg_0 ha, iI_lt rg_0 ha, iI_eq ha rg_0, iI_eq rg_0 ha, ne_eq] at h; omega)) (fun h => kf (by rw [← iI_0] at h; simp only [iI_le ha rg_0, iI_lt ha rg_0, iI_le rg_0 ha, iI_lt rg_0 ha, iI_eq ha rg_0, iI_eq rg_0 ha, ne_eq] at h; omega))
theorem j_zle (hx : p.tables.exec = Jvm.exec) (hb : c.code = cc) {a : Int} (ha : rg a) {off : Int} {tgt : Nat} (hdg : decode cc pc = .ok (.ifCond .le off, 3)) (ht : (pc : Int) + off = (tgt : Int)) (kt : a ≤ 0 → W p l e R s m args below meth c H locs cells slots Q (F0 m tgt ls (rest))) (kf : 0 < a → W p l e R s m args below meth c H locs cells slots Q (F0 m (pc + 3) ls (rest))) : W p l e R s m args below meth c H locs cells slots Q (F0 m pc ls (.int (iI a) :: rest)) :=
  lv_if_le hx hb hdg ht (fun h => kt (by rw [← iI_0] at h; simp only [iI_le ha rg_0, iI_lt ha rg_0, iI_le rg_0 ha, iI_lt rg_0 ha, iI_eq ha rg_0, iI_eq rg_0 ha, ne_eq] at h; omega)) (fun h => kf (by rw [← iI_0] at h; simp only [iI_le ha rg_0, iI_lt ha rg_0, iI_le rg_0 ha, iI_lt rg_0 ha, iI_eq ha rg_0, iI_eq rg_0 ha, ne_eq] at h; omega))
theorem j_zeq (hx : p.tables.exec = Jvm.exec) (hb : c.code = cc) {a : Int} (ha : rg a) {off : Int} {tgt : Nat} (hdg : decode cc pc = .ok (.ifCond .eq off, 3)) (ht : (pc : Int) + off = (tgt : Int)) (kt : a = 0 → W p l e R s m args below meth c H locs cells slots Q (F0 m tgt ls (rest))) (kf : a ≠ 0 → W p l e R s m args below meth c H locs cells slots Q (F0 m (pc + 3) ls (rest))) : W p l e R s m args below meth c H locs cells slots Q (F0 m pc ls (.int (iI a) :: rest)) :=
  lv_if_eq hx hb hdg ht (fun h => kt (by rw [← iI_0] at h; simp only [iI_le ha rg_0, iI_lt ha rg_0, iI_le rg_0 ha, iI_lt rg_0 ha, iI_eq ha rg_0, iI_eq rg_0 ha, ne_eq] at h; omega)) (fun h => kf (by rw [← iI_0] at h; simp only [iI_le ha rg_0, iI_lt ha rg_0, iI_le rg_0 ha, iI_lt rg_0 ha, iI_eq ha rg_0, iI_eq rg_0 ha, ne_eq] at h; omega))
theorem j_zne (hx : p.tables.exec = Jvm.exec) (hb : c.code = cc) {a : Int} (ha : rg a) {off : Int} {tgt : Nat} (hdg : decode cc pc = .ok (.ifCond .ne off, 3)) (ht : (pc : Int) + off = (tgt : Int)) (kt : a ≠ 0 → W p l e R s m args below meth c H locs cells slots Q (F0 m tgt ls (rest))) (kf : a = 0 → W p l e R s m args below meth c H locs cells slots Q (F0 m (pc + 3) ls (rest))) : W p l e R s m args below meth c H locs cells slots Q (F0 m pc ls (.int (iI a) :: rest)) :=
  lv_if_ne hx hb hdg ht (fun h => kt (by rw [← iI_0] at h; simp only [iI_le ha rg_0, iI_lt ha rg_0, iI_le rg_0 ha, iI_lt rg_0 ha, iI_eq ha rg_0, iI_eq rg_0 ha, ne_eq] at h; omega)) (fun h => kf (by rw [← iI_0] at h; simp only [iI_le ha rg_0, iI_lt ha rg_0, iI_le rg_0 ha, iI_lt rg_0 ha, iI_eq ha rg_0, iI_eq rg_0 ha, ne_eq] at h; omega))
theorem j_beq (hx : p.tables.exec = Jvm.exec) (hb : c.code = cc) {P : Prop} [Decidable P] {off : Int} {tgt : Nat} (hdg : decode cc pc = .ok (.ifCond .eq off, 3)) (ht : (pc : Int) + off = (tgt : Int)) (kt : ¬ P → W p l e R s m args below meth c H locs cells slots Q (F0 m tgt ls (rest))) (kf : P → W p l e R s m args below meth c H locs cells slots Q (F0 m (pc + 3) ls (rest))) : W p l e R s m args below meth c H locs cells slots Q (F0 m pc ls (.int (iI (b2i P)) :: rest)) := by
  have hr := b2i_rg (P := P)
  refine j_zeq hx hb ⟨by omega, by omega⟩ hdg ht (fun h => kt ?_) (fun h => kf ?_)
  · unfold b2i at h
    split at h <;> first | assumption | omega
  · unfold b2i at h
    split at h <;> first | assumption | omega
theorem j_bne (hx : p.tables.exec = Jvm.exec) (hb : c.code = cc) {P : Prop} [Decidable P] {off : Int} {tgt : Nat} (hdg : decode cc pc = .ok (.ifCond .ne off, 3)) (ht : (pc : Int) + off = (tgt : Int)) (kt : P → W p l e R s m args below meth c H locs cells slots Q (F0 m tgt ls (rest))) (kf : ¬ P → W p l e R s m args below meth c H locs cells slots Q (F0 m (pc + 3) ls (rest))) : W p l e R s m args below meth c H locs cells slots Q (F0 m pc ls (.int (iI (b2i P)) :: rest)) := by
  have hr := b2i_rg (P := P)
  refine j_zne hx hb ⟨by omega, by omega⟩ hdg ht (fun h => kt ?_) (fun h => kf ?_)
  · unfold b2i at h
    split at h <;> first | assumption | omega
  · unfold b2i at h
    split at h <;> first | assumption | omega
end BS
abbrev bd (a : Int) : Prop := -100000 ≤ a ∧ a ≤ 100000
theorem b2i_or {P : Prop} [Decidable P] : b2i P = 0 ∨ b2i P = 1 := by
  unfold b2i
  split <;> omega
/-- the first place of v, or -9 -/
def seatF (el : Nat → Int) (v : Int) : Nat → Int
  | 0 => -9
  | n + 1 => if seatF el v n ≠ -9 then seatF el v n else if el n = v then (n : Int) else -9
def sm (f : Nat → Int) : Nat → Int
  | 0 => 0
  | n + 1 => sm f n + f n
/-- the place at which f counts to p -/
def pick (f : Nat → Int) (p : Int) : Nat → Int
  | 0 => -9
  | n + 1 => if pick f p n ≠ -9 then pick f p n else if f n = 1 ∧ sm f n = p then (n : Int) else -9
theorem seatF_rg {el : Nat → Int} {v : Int} : ∀ n, -9 ≤ seatF el v n ∧ (seatF el v n < n ∨ seatF el v n = -9) ∧ (seatF el v n = -9 ∨ 0 ≤ seatF el v n)
  | 0 => ⟨by simp [seatF], by simp [seatF], by simp [seatF]⟩
  | n + 1 => by
    have := seatF_rg (el := el) (v := v) n
    simp only [seatF]
    split
    · omega
    · split <;> omega
theorem seatF_keep {el : Nat → Int} {v : Int} {k : Nat} (h : seatF el v k ≠ -9) : ∀ d, seatF el v (k + d) = seatF el v k
  | 0 => rfl
  | d + 1 => by
    rw [show k + (d + 1) = (k + d) + 1 from rfl]
    simp only [seatF]
    rw [seatF_keep h d, if_pos h]
theorem seatF_found {el : Nat → Int} {v : Int} {i n : Nat} (h : seatF el v i = -9) (he : el i = v) (hn : i < n) : seatF el v n = i := by
  have h1 : seatF el v (i + 1) = i := by
    simp only [seatF]
    rw [if_neg (by omega), if_pos he]
  have := seatF_keep (el := el) (v := v) (k := i + 1) (by omega) (n - (i + 1))
  rw [show i + 1 + (n - (i + 1)) = n from by omega] at this
  omega
theorem seatF_step {el : Nat → Int} {v : Int} {i : Nat} (h : seatF el v i = -9) (he : el i ≠ v) : seatF el v (i + 1) = -9 := by
  simp only [seatF]
  rw [if_neg (by omega), if_neg he]
theorem pick_keep {f : Nat → Int} {p : Int} {k : Nat} (h : pick f p k ≠ -9) : ∀ d, pick f p (k + d) = pick f p k
  | 0 => rfl
  | d + 1 => by
    rw [show k + (d + 1) = (k + d) + 1 from rfl]
    simp only [pick]
    rw [pick_keep h d, if_pos h]
theorem pick_found {f : Nat → Int} {p : Int} {i n : Nat} (h : pick f p i = -9) (he : f i = 1 ∧ sm f i = p) (hn : i < n) : pick f p n = i := by
  have h1 : pick f p (i + 1) = i := by
    simp only [pick]
    rw [if_neg (by omega), if_pos he]
  have := pick_keep (f := f) (p := p) (k := i + 1) (by omega) (n - (i + 1))
  rw [show i + 1 + (n - (i + 1)) = n from by omega] at this
  omega
theorem pick_step {f : Nat → Int} {p : Int} {i : Nat} (h : pick f p i = -9) (he : ¬ (f i = 1 ∧ sm f i = p)) : pick f p (i + 1) = -9 := by
  simp only [pick]
  rw [if_neg (by omega), if_neg he]
theorem sm_rg {f : Nat → Int} (h : ∀ k, 0 ≤ f k ∧ f k ≤ 1) : ∀ n, 0 ≤ sm f n ∧ sm f n ≤ n
  | 0 => ⟨by simp [sm], by simp [sm]⟩
  | n + 1 => by
    have := sm_rg h n
    have := h n
    simp only [sm]
    omega
section BX
variable {p : Program} {l : Launch} {e : Env} {R : Room} {s : State} {m : MethodId} {args : Array Value} {below : List Frame} {meth : Method} {c : Code} {H : Heap} {locs : List Loc} {cells slots : Nat} {Q : State → Prop}
variable {cc : ByteArray} {pc : Nat} {ls : Array Slot} {rest : List Value}
theorem j_ldc (hx : p.tables.exec = Jvm.exec) (hb : c.code = cc) {own : String} {index : Nat} {v : Int32} {n : Int} (hown : s.vm.findClass own = some m.cls) (hconst : (Jvm.Cond.constant own index v).before args s = true) (hv : v = iI n) (hdg : decode cc pc = .ok (.ldc index, 2)) (k : W p l e R s m args below meth c H locs cells slots Q (F0 m (pc + 2) ls (.int (iI n) :: rest))) : W p l e R s m args below meth c H locs cells slots Q (F0 m pc ls (rest)) := lv_ldc hx hb hown hconst hdg (hv ▸ k)
theorem j_mmax (hx : p.tables.exec = Jvm.exec) (hb : c.code = cc) (hml : c.maxLocals = ls.size) {own : String} {index : Nat} (hown : s.vm.findClass own = some m.cls) (hlink : (Cond.methodLink own index Lib.Math.max.name).before args s = true) (hstat : (Cond.static Lib.Math.max.name).before args s = true) (hini : (Cond.initialized "java/lang/Math").before args s = true) (hcode : (Cond.code Lib.Math.max.name Lib.Math.max.code 2 (some .int)).before args s = true) (hframes : 1 ≤ R.frames) (hlocals : (rest.map fun v => v.category).sum + 13 ≤ R.locals) (hc : cells ≤ R.cells) (hs : slots ≤ R.slots) {a b : Int} (ha : rg a) (hbb : rg b) (hdg : decode cc pc = .ok (.invokestatic index, 3)) (k : W p l e R s m args below meth c H locs cells slots Q (F0 m (pc + 3) ls (.int (iI (max a b)) :: rest))) : W p l e R s m args below meth c H locs cells slots Q (F0 m pc ls (.int (iI b) :: .int (iI a) :: rest)) := va_mmax hx hb hml hown hlink hstat hini hcode hframes hlocals hc hs hdg (by rw [show (if iI a < iI b then iI b else iI a) = iI (max a b) from (by simp only [iI_lt ha hbb, iI_lt hbb ha]; split <;> congr 1 <;> omega)]; exact k)
theorem j_mmin (hx : p.tables.exec = Jvm.exec) (hb : c.code = cc) (hml : c.maxLocals = ls.size) {own : String} {index : Nat} (hown : s.vm.findClass own = some m.cls) (hlink : (Cond.methodLink own index Lib.Math.min.name).before args s = true) (hstat : (Cond.static Lib.Math.min.name).before args s = true) (hini : (Cond.initialized "java/lang/Math").before args s = true) (hcode : (Cond.code Lib.Math.min.name Lib.Math.min.code 2 (some .int)).before args s = true) (hframes : 1 ≤ R.frames) (hlocals : (rest.map fun v => v.category).sum + 13 ≤ R.locals) (hc : cells ≤ R.cells) (hs : slots ≤ R.slots) {a b : Int} (ha : rg a) (hbb : rg b) (hdg : decode cc pc = .ok (.invokestatic index, 3)) (k : W p l e R s m args below meth c H locs cells slots Q (F0 m (pc + 3) ls (.int (iI (min a b)) :: rest))) : W p l e R s m args below meth c H locs cells slots Q (F0 m pc ls (.int (iI b) :: .int (iI a) :: rest)) := va_mmin hx hb hml hown hlink hstat hini hcode hframes hlocals hc hs hdg (by rw [show (if iI b < iI a then iI b else iI a) = iI (min a b) from (by simp only [iI_lt ha hbb, iI_lt hbb ha]; split <;> congr 1 <;> omega)]; exact k)
theorem j_tin (hx : p.tables.exec = Jvm.exec) (hb : c.code = cc) {dflt lo hi : Int} {offs : Array Int} {len : Nat} {a k : Int} {off : Int} {tgt : Nat} (ha : a = k) (hk : rg k) (hdg : decode cc pc = .ok (.tableswitch dflt lo hi offs, len)) (h1 : ¬ k < lo) (h2 : ¬ hi < k) (ho : offs[(k - lo).toNat]? = some off) (ht : (pc : Int) + off = (tgt : Int)) (kk : W p l e R s m args below meth c H locs cells slots Q (F0 m tgt ls (rest))) : W p l e R s m args below meth c H locs cells slots Q (F0 m pc ls (.int (iI a) :: rest)) := by
  subst ha
  exact lv_tableIn hx hb hdg (by rw [iI_toInt hk]; exact h1) (by rw [iI_toInt hk]; exact h2) (by rw [iI_toInt hk]; exact ho) ht kk
theorem j_tout (hx : p.tables.exec = Jvm.exec) (hb : c.code = cc) {dflt lo hi : Int} {offs : Array Int} {len : Nat} {a : Int} {tgt : Nat} (hk : rg a) (hdg : decode cc pc = .ok (.tableswitch dflt lo hi offs, len)) (h : a < lo ∨ hi < a) (ht : (pc : Int) + dflt = (tgt : Int)) (kk : W p l e R s m args below meth c H locs cells slots Q (F0 m tgt ls (rest))) : W p l e R s m args below meth c H locs cells slots Q (F0 m pc ls (.int (iI a) :: rest)) :=
  lv_tableOut hx hb hdg (by rw [iI_toInt hk]; exact h) ht kk
theorem j_lk (hx : p.tables.exec = Jvm.exec) (hb : c.code = cc) {dflt : Int} {ps : Array (Int × Int)} {len : Nat} {a : Int} {off : Int} {tgt : Nat} (hk : rg a) (hdg : decode cc pc = .ok (.lookupswitch dflt ps, len)) (hp : (ps.toList.zip (ps.toList.drop 1)).all (fun (a, next) => a.1 < next.1) = true) (ho : Op.lookupswitch.offset ps.toList dflt a = off) (ht : (pc : Int) + off = (tgt : Int)) (kk : W p l e R s m args below meth c H locs cells slots Q (F0 m tgt ls (rest))) : W p l e R s m args below meth c H locs cells slots Q (F0 m pc ls (.int (iI a) :: rest)) :=
  lv_lookup hx hb hdg hp (by rw [iI_toInt hk]; exact ho) ht kk
end BX
