/-! the history's six rows, the log's object, and the whole of the system's cells -/
def rowsw (F : Nat → va_W) : va_W := F 0 ++ (F 1 ++ (F 2 ++ (F 3 ++ (F 4 ++ F 5))))
def restw (F : Nat → va_W) (j : Nat) : va_W := (if j = 0 then [] else F 0) ++ ((if j = 1 then [] else F 1) ++ ((if j = 2 then [] else F 2) ++ ((if j = 3 then [] else F 3) ++ ((if j = 4 then [] else F 4) ++ (if j = 5 then [] else F 5)))))
theorem rows_perm {F : Nat → va_W} {j : Nat} (hj : j < 6) : (rowsw F).Perm (F j ++ restw F j) := by
  unfold rowsw restw
  rcases (show j = 0 ∨ j = 1 ∨ j = 2 ∨ j = 3 ∨ j = 4 ∨ j = 5 by omega) with h | h | h | h | h | h <;> subst h <;> refine perm_of_count (fun i x => ?_) <;> simp [List.count_append] <;> omega
theorem restw_congr {F G : Nat → va_W} {j : Nat} (h : ∀ k, k ≠ j → F k = G k) : restw F j = restw G j := by
  have e : ∀ k, (if j = k then ([] : va_W) else F k) = if j = k then [] else G k := by
    intro k
    split
    · rfl
    · exact h k (by omega)
  unfold restw
  rw [e 0, e 1, e 2, e 3, e 4, e 5]
def nt {α : Type} (j : Nat) (v : α) (f : Nat → α) : Nat → α := fun k => if k = j then v else f k
theorem nt_eq {α : Type} {j : Nat} {v : α} {f : Nat → α} : nt j v f j = v := if_pos rfl
theorem nt_ne {α : Type} {j k : Nat} {v : α} {f : Nat → α} (h : k ≠ j) : nt j v f k = f k := if_neg h
def rw6 (cI : ClassId) (ra : Nat → Nat → Nat) (rS : Nat → Nat → Int) (rZ : Nat → Int) (rN : Nat → Nat → Int) : va_W := rowsw (fun k => vilw cI (ra k) (rS k) (rZ k) (rN k))
def hvw (cI cV : ClassId) (o r : Nat) (ra : Nat → Nat → Nat) (fr n : Int) (a : Nat → Nat) (s : Nat → Int) (nz : Int) (nw : Nat → Int) (rS : Nat → Nat → Int) (rZ : Nat → Int) (rN : Nat → Nat → Int) : va_W := hisw cV o r (fun k => ra k 0) fr n ++ (vilw cI a s nz nw ++ rw6 cI ra rS rZ rN)
theorem hv_note1 {cI cV : ClassId} {o r : Nat} {ra : Nat → Nat → Nat} {fr n nz : Int} {a : Nat → Nat} {s nw : Nat → Int} {rS rN : Nat → Nat → Int} {rZ : Nat → Int} {j : Nat} (hj : j < 6) : (hvw cI cV o r ra fr n a s nz nw rS rZ rN).Perm (vil2 cI (ra j) a (rS j) (rZ j) (rN j) s nz nw ++ (hisw cV o r (fun k => ra k 0) fr n ++ restw (fun k => vilw cI (ra k) (rS k) (rZ k) (rN k)) j)) := by
  unfold hvw rw6
  have h1 := rows_perm (F := fun k => vilw cI (ra k) (rS k) (rZ k) (rN k)) hj
  have h2 := vil2_perm (cI := cI) (a := ra j) (b := a) (s := rS j) (nz := rZ j) (nw := rN j) (t := s) (mz := nz) (mw := nw)
  refine ((List.Perm.refl (hisw cV o r (fun k => ra k 0) fr n)).append ((List.Perm.refl (vilw cI a s nz nw)).append h1)).trans ?_
  refine List.Perm.trans ?_ (h2.symm.append (List.Perm.refl _))
  refine perm_of_count (fun i x => ?_)
  simp only [List.count_append]
  omega
theorem hv_note2 {cI cV : ClassId} {o r : Nat} {ra : Nat → Nat → Nat} {fr n nz : Int} {a : Nat → Nat} {s nw : Nat → Int} {rS rN : Nat → Nat → Int} {rZ : Nat → Int} {j : Nat} (hj : j < 6) : (vil2 cI (ra j) a s nz nw s nz nw ++ (hisw cV o r (fun k => ra k 0) fr n ++ restw (fun k => vilw cI (ra k) (rS k) (rZ k) (rN k)) j)).Perm (hvw cI cV o r ra fr n a s nz nw (nt j s rS) (nt j nz rZ) (nt j nw rN)) := by
  have h0 := hv_note1 (cI := cI) (cV := cV) (o := o) (r := r) (ra := ra) (fr := fr) (n := n) (nz := nz) (a := a) (s := s) (nw := nw) (rS := nt j s rS) (rZ := nt j nz rZ) (rN := nt j nw rN) hj
  rw [nt_eq, nt_eq, nt_eq, restw_congr (F := fun k => vilw cI (ra k) (nt j s rS k) (nt j nz rZ k) (nt j nw rN k)) (G := fun k => vilw cI (ra k) (rS k) (rZ k) (rN k)) (fun k hk => by rw [nt_ne hk, nt_ne hk, nt_ne hk])] at h0
  exact h0.symm
def logo (g a : Nat → Nat) : va_W := [(g 0, .inr (5, [.ref (a 0), .ref (g 1), .ref (g 3)]))]
/-- all cells of the system -/
def logw (cI cV : ClassId) (g a : Nat → Nat) (ra : Nat → Nat → Nat) (s : Nat → Int) (nz : Int) (nw : Nat → Int) (rS : Nat → Nat → Int) (rZ : Nat → Int) (rN : Nat → Nat → Int) (fr hn : Int) (t : Nat → Int) (n pl le vr nr : Int) : va_W := logo g a ++ (txtw cI (g 3) (g 4) t n pl le vr nr ++ hvw cI cV (g 1) (g 2) ra fr hn a s nz nw rS rZ rN)
theorem log_txt {cI cV : ClassId} {D : va_G} {H : Heap} {g a : Nat → Nat} {ra : Nat → Nat → Nat} {s nw : Nat → Int} {nz : Int} {rS rN : Nat → Nat → Int} {rZ : Nat → Int} {fr hn : Int} {t : Nat → Int} {n pl le vr nr : Int} (h : va_P D vwCl (logw cI cV g a ra s nz nw rS rZ rN fr hn t n pl le vr nr) H) : va_P D vwCl (txtw cI (g 3) (g 4) t n pl le vr nr) H := va_P.mid (pre := logo g a) h
theorem log_his {cI cV : ClassId} {D : va_G} {H : Heap} {g a : Nat → Nat} {ra : Nat → Nat → Nat} {s nw : Nat → Int} {nz : Int} {rS rN : Nat → Nat → Int} {rZ : Nat → Int} {fr hn : Int} {t : Nat → Int} {n pl le vr nr : Int} (h : va_P D vwCl (logw cI cV g a ra s nz nw rS rZ rN fr hn t n pl le vr nr) H) : va_P D vwCl (hisw cV (g 1) (g 2) (fun k => ra k 0) fr hn) H := va_P.mid (pre := logo g a ++ txtw cI (g 3) (g 4) t n pl le vr nr) (by rw [List.append_assoc]; exact h)
theorem log_vil {cI cV : ClassId} {D : va_G} {H : Heap} {g a : Nat → Nat} {ra : Nat → Nat → Nat} {s nw : Nat → Int} {nz : Int} {rS rN : Nat → Nat → Int} {rZ : Nat → Int} {fr hn : Int} {t : Nat → Int} {n pl le vr nr : Int} (h : va_P D vwCl (logw cI cV g a ra s nz nw rS rZ rN fr hn t n pl le vr nr) H) : va_P D vwCl (vilw cI a s nz nw) H := va_P.mid (pre := logo g a ++ (txtw cI (g 3) (g 4) t n pl le vr nr ++ hisw cV (g 1) (g 2) (fun k => ra k 0) fr hn)) (post := rw6 cI ra rS rZ rN) (by rw [List.append_assoc, List.append_assoc]; exact h)
section HB
variable {p : Program} {l : Launch} {e : Env} {R : Room} {s0 : State} {m : MethodId} {args : Array Value} {below : List Frame} {meth : Method} {c : Code} {H H0 : Heap} {locs : List Loc} {cells slots : Nat} {Q : State → Prop} {D : va_G} {cI cV : ClassId} {Ts : List Cond} {A : Nat → Prop} {w : va_W}
variable {cc : ByteArray} {pc : Nat} {ls : Array Slot} {rest : List Value}
variable {a b g rows : Nat → Nat} {fr n : Int} {o r : Nat}
theorem Qg0 (hx : p.tables.exec = Jvm.exec) (hb : c.code = cc) (hts : ∀ w ∈ Ts, w.before args s0 = true) (hin : ∀ w ∈ u_ws RX1 TX1 3, w ∈ Ts) (hown : s0.vm.findClass RX1 = some m.cls) (hK : va_K D vwCl (kt cI cV) s0) (hP : va_P D vwCl (hisw cV o r rows fr n ++ w) H) {idx : Nat} (hl : Cond.fieldLink RX1 idx "VillageLog$History" "rows" "[LVillageLog$Village;" ∈ Ts) (hdg : decode cc pc = .ok (.getfield idx, 3)) (k : W p l e R s0 m args below meth c H locs cells slots Q (F0 m (pc + 3) ls (.ref r :: rest))) : W p l e R s0 m args below meth c H locs cells slots Q (F0 m pc ls (.ref (o) :: rest)) :=
  va_get (D := D) (ci := 1) (C := RX1) (T := TX1) (N := 3) hx hb hts hin hown hK hP 0 rfl rfl 0 (by decide) (hts _ hl) (fun _ h => h) rfl hdg k
theorem Qg1 (hx : p.tables.exec = Jvm.exec) (hb : c.code = cc) (hts : ∀ w ∈ Ts, w.before args s0 = true) (hin : ∀ w ∈ u_ws RX1 TX1 3, w ∈ Ts) (hown : s0.vm.findClass RX1 = some m.cls) (hK : va_K D vwCl (kt cI cV) s0) (hP : va_P D vwCl (hisw cV o r rows fr n ++ w) H) {idx : Nat} (hl : Cond.fieldLink RX1 idx "VillageLog$History" "free" "I" ∈ Ts) (hdg : decode cc pc = .ok (.getfield idx, 3)) (k : W p l e R s0 m args below meth c H locs cells slots Q (F0 m (pc + 3) ls (.int (iI fr) :: rest))) : W p l e R s0 m args below meth c H locs cells slots Q (F0 m pc ls (.ref (o) :: rest)) :=
  va_get (D := D) (ci := 1) (C := RX1) (T := TX1) (N := 3) hx hb hts hin hown hK hP 0 rfl rfl 1 (by decide) (hts _ hl) (fun _ h => h) rfl hdg k
theorem Qa (hx : p.tables.exec = Jvm.exec) (hb : c.code = cc) (hK : va_K D vwCl (kt cI cV) s0) (hP : va_P D vwCl (hisw cV o r rows fr n ++ w) H) {i : Int} (hi : 0 ≤ i ∧ i < 6) (hdg : decode cc pc = .ok (.aaload, 1)) (k : W p l e R s0 m args below meth c H locs cells slots Q (F0 m (pc + 1) ls (.ref (rows i.toNat) :: rest))) : W p l e R s0 m args below meth c H locs cells slots Q (F0 m pc ls (.int (iI i) :: .ref r :: rest)) := by
  refine va_aldq hx hb hK hP 1 1 rfl rfl (iI_in (n := 6) (by omega) (by omega)) hdg ?_
  rw [iI_clamp ⟨by omega, by omega⟩]
  exact k
theorem Gg0 (hx : p.tables.exec = Jvm.exec) (hb : c.code = cc) (hts : ∀ w ∈ Ts, w.before args s0 = true) (hin : ∀ w ∈ u_ws RX5 TX5 3, w ∈ Ts) (hown : s0.vm.findClass RX5 = some m.cls) (hK : va_K D vwCl (kt cI cV) s0) (hP : va_P D vwCl (logo g a ++ w) H) {idx : Nat} (hl : Cond.fieldLink RX5 idx "VillageLog" "village" "LVillageLog$Village;" ∈ Ts) (hdg : decode cc pc = .ok (.getfield idx, 3)) (k : W p l e R s0 m args below meth c H locs cells slots Q (F0 m (pc + 3) ls (.ref (a 0) :: rest))) : W p l e R s0 m args below meth c H locs cells slots Q (F0 m pc ls (.ref (g 0) :: rest)) :=
  va_get (D := D) (ci := 5) (C := RX5) (T := TX5) (N := 3) hx hb hts hin hown hK hP 0 rfl rfl 0 (by decide) (hts _ hl) (fun _ h => h) rfl hdg k
theorem Gg1 (hx : p.tables.exec = Jvm.exec) (hb : c.code = cc) (hts : ∀ w ∈ Ts, w.before args s0 = true) (hin : ∀ w ∈ u_ws RX5 TX5 3, w ∈ Ts) (hown : s0.vm.findClass RX5 = some m.cls) (hK : va_K D vwCl (kt cI cV) s0) (hP : va_P D vwCl (logo g a ++ w) H) {idx : Nat} (hl : Cond.fieldLink RX5 idx "VillageLog" "history" "LVillageLog$History;" ∈ Ts) (hdg : decode cc pc = .ok (.getfield idx, 3)) (k : W p l e R s0 m args below meth c H locs cells slots Q (F0 m (pc + 3) ls (.ref (g 1) :: rest))) : W p l e R s0 m args below meth c H locs cells slots Q (F0 m pc ls (.ref (g 0) :: rest)) :=
  va_get (D := D) (ci := 5) (C := RX5) (T := TX5) (N := 3) hx hb hts hin hown hK hP 0 rfl rfl 1 (by decide) (hts _ hl) (fun _ h => h) rfl hdg k
theorem Gg2 (hx : p.tables.exec = Jvm.exec) (hb : c.code = cc) (hts : ∀ w ∈ Ts, w.before args s0 = true) (hin : ∀ w ∈ u_ws RX5 TX5 3, w ∈ Ts) (hown : s0.vm.findClass RX5 = some m.cls) (hK : va_K D vwCl (kt cI cV) s0) (hP : va_P D vwCl (logo g a ++ w) H) {idx : Nat} (hl : Cond.fieldLink RX5 idx "VillageLog" "text" "LVillageLog$Text;" ∈ Ts) (hdg : decode cc pc = .ok (.getfield idx, 3)) (k : W p l e R s0 m args below meth c H locs cells slots Q (F0 m (pc + 3) ls (.ref (g 3) :: rest))) : W p l e R s0 m args below meth c H locs cells slots Q (F0 m pc ls (.ref (g 0) :: rest)) :=
  va_get (D := D) (ci := 5) (C := RX5) (T := TX5) (N := 3) hx hb hts hin hown hK hP 0 rfl rfl 2 (by decide) (hts _ hl) (fun _ h => h) rfl hdg k
end HB
