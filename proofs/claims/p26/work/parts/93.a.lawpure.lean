/-! the law's own words over a state -/
theorem and_nn (x : Int32) : 0 ≤ (x &&& iI 2147483647).toInt := by
  have h : (x &&& iI 2147483647).toBitVec.toNat ≤ 2147483647 := by
    rw [Int32.toBitVec_and, BitVec.toNat_and]
    exact Nat.le_trans Nat.and_le_right (by decide +kernel)
  show 0 ≤ (x &&& iI 2147483647).toBitVec.toInt
  rw [BitVec.toInt_eq_toNat_cond]
  split <;> omega
def lowV (v n : Int) : Int := (iI v &&& iI 2147483647).toInt % n
theorem lowV_rg {v n : Int} (h : 0 < n) : 0 ≤ lowV v n ∧ lowV v n < n := by
  have h1 := Int.emod_nonneg (iI v &&& iI 2147483647).toInt (show n ≠ 0 by omega)
  have h2 := Int.emod_lt_of_pos (iI v &&& iI 2147483647).toInt h
  unfold lowV
  omega
theorem seatL_rg {el : Nat → Int} {v : Int} : ∀ n, -9 ≤ seatL el v n ∧ seatL el v n < n ∧ (seatL el v n = -9 ∨ 0 ≤ seatL el v n)
  | 0 => ⟨by simp [seatL], by simp [seatL], by simp [seatL]⟩
  | n + 1 => by
    have := seatL_rg (el := el) (v := v) n
    simp only [seatL]
    split <;> omega
theorem pickL_rg {f : Nat → Int} {p : Int} : ∀ n, -9 ≤ pickL f p n ∧ pickL f p n < n
  | 0 => ⟨by simp [pickL], by simp [pickL]⟩
  | n + 1 => by
    have := pickL_rg (f := f) (p := p) n
    simp only [pickL]
    split <;> omega
theorem blk_step {f v : Nat → Int} {o k : Nat} : up (blk f o v k) (o + k) (v k) = blk f o v (k + 1) := by
  funext j
  unfold up
  by_cases h : j = o + k
  · subst h
    rw [if_pos rfl]
    unfold blk
    rw [if_pos (by omega), show o + k - o = k from by omega]
  · rw [if_neg h]
    unfold blk
    by_cases q : o ≤ j ∧ j < o + k
    · rw [if_pos q, if_pos (by omega)]
    · rw [if_neg q, if_neg (by omega)]
theorem blk_0 {f v : Nat → Int} {o : Nat} : blk f o v 0 = f := by
  funext j
  unfold blk
  rw [if_neg (by omega)]
def boV (m : Nat → Int) : Int := if m 5 < 0 then 24 else 29
theorem boV_o {m : Nat → Int} (h : m 5 = -9 ∨ 0 ≤ m 5) : 8 + boV m = (((if m 5 ≠ -9 then (37 : Int) else 32).toNat : Nat) : Int) ∧ 8 ≤ (if m 5 ≠ -9 then (37 : Int) else 32).toNat ∧ (if m 5 ≠ -9 then (37 : Int) else 32).toNat ≤ 37 ∧ (boV m = 24 ∨ boV m = 29) := by
  unfold boV
  by_cases c : m 5 = -9
  · rw [if_pos (by omega), if_neg (by omega)]
    omega
  · rw [if_neg (by omega), if_pos c]
    omega
/-- the seats that no council has are alike in both rows while a change goes on -/
def Xw (m : Nat → Int) : Prop := m 5 ≠ -9 → ∀ i : Nat, i < 5 → m 1 ≤ (i : Int) → m (37 + i) = m (32 + i)
theorem agree_end {s : Nat → Int} (h1 : 0 ≤ s 1 ∧ s 1 ≤ 5) (h4 : 0 ≤ s 4) (h : s 4 = s 5) (hX : Xw s) {j : Nat} (hj : j < 42) : (up (up (up (up (up (up (up (up s 4 (s 4 + 1)) 32 (s 37)) 33 (s 38)) 34 (s 39)) 35 (s 40)) 36 (s 41)) 5 (-9)) 2 (s 2 + 1)) j = mgStep s j := by
  have hX := hX (by omega)
  unfold mgStep
  rw [if_pos h]
  unfold endM
  by_cases j2 : j = 2
  · rw [up_at j2, up_at j2, blk_out (by omega), up_ne (by omega)]
  rw [up_ne j2, up_ne j2]
  by_cases j5 : j = 5
  · rw [up_at j5, up_at j5]
  rw [up_ne j5, up_ne j5, up_ne (show (1 : Nat) ≠ 4 by omega)]
  by_cases q : 32 ≤ j ∧ j < 37
  · obtain ⟨i, rfl⟩ : ∃ i, j = 32 + i := ⟨j - 32, by omega⟩
    have e : (up (up (up (up (up (up s 4 (s 4 + 1)) 32 (s 37)) 33 (s 38)) 34 (s 39)) 35 (s 40)) 36 (s 41)) (32 + i) = s (37 + i) := by
      rcases (show i = 0 ∨ i = 1 ∨ i = 2 ∨ i = 3 ∨ i = 4 by omega) with r | r | r | r | r <;> subst r <;> simp [up]
    rw [e]
    by_cases c : (i : Int) < s 1
    · rw [blk_in (by omega), up_ne (by omega)]
    · rw [blk_out (by omega), up_ne (by omega)]
      exact hX i (by omega) (by omega)
  · rw [blk_out (by omega), up_ne (by omega), up_ne (by omega), up_ne (by omega), up_ne (by omega), up_ne (by omega)]
theorem Xw_step {s : Nat → Int} (h1 : 0 ≤ s 1 ∧ s 1 ≤ 5) (hX : Xw s) : Xw (mgStep s) := by
  unfold mgStep
  split
  · intro h
    exact absurd (by
      unfold endM
      rw [up_ne (by omega), up_at rfl]) h
  · intro h i hi hm
    rw [up_ne (by omega)] at h
    rw [up_ne (by omega)] at hm
    rw [up_ne (by omega), up_ne (by omega)]
    exact hX h i hi hm
theorem Xw_mg : ∀ (n : Nat) {s : Nat → Int}, Inv s → Xw s → Xw (mgS n s)
  | 0, _, _, h => h
  | n + 1, s, hI, h => by
    by_cases c : cnM s
    · rw [mgS_pos c]
      exact Xw_mg n (Inv_step hI c) (Xw_step ⟨hI.1.2.2.2.1, hI.1.2.2.2.2.1⟩ h)
    · rw [mgS_neg c]
      exact h
section BS
variable {p : Program} {l : Launch} {e : Env} {R : Room} {s : State} {m : MethodId} {args : Array Value} {below : List Frame} {meth : Method} {c : Code} {H : Heap} {locs : List Loc} {cells slots : Nat} {Q : State → Prop}
variable {cc : ByteArray} {pc : Nat} {ls : Array Slot} {rest : List Value}
theorem j_zge (hx : p.tables.exec = Jvm.exec) (hb : c.code = cc) {a : Int} (ha : rg a) {off : Int} {tgt : Nat} (hdg : decode cc pc = .ok (.ifCond .ge off, 3)) (ht : (pc : Int) + off = (tgt : Int)) (kt : 0 ≤ a → W p l e R s m args below meth c H locs cells slots Q (F0 m tgt ls (rest))) (kf : a < 0 → W p l e R s m args below meth c H locs cells slots Q (F0 m (pc + 3) ls (rest))) : W p l e R s m args below meth c H locs cells slots Q (F0 m pc ls (.int (iI a) :: rest)) :=
  lv_if_ge hx hb hdg ht (fun h => kt (by rw [← iI_0] at h; simp only [iI_le ha rg_0, iI_lt ha rg_0, iI_le rg_0 ha, iI_lt rg_0 ha, iI_eq ha rg_0, iI_eq rg_0 ha, ne_eq] at h; omega)) (fun h => kf (by rw [← iI_0] at h; simp only [iI_le ha rg_0, iI_lt ha rg_0, iI_le rg_0 ha, iI_lt rg_0 ha, iI_eq ha rg_0, iI_eq rg_0 ha, ne_eq] at h; omega))
end BS
