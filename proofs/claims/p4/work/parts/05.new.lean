def zGn (G : zG) (q kd n : Nat) : zG := (G.1 ++ [q], va_up G.2.1 q kd, va_up G.2.2 q n)
def zSn (S : zS) (q : Nat) : zS := (va_up S.1 q (fun _ => 0), va_up S.2.1 q (fun _ => 0), va_up S.2.2 q (fun _ => none))
theorem zWn {cy : Nat → ClassId} {G : zG} {S : zS} {q : Nat} (kd n : Nat) (h : q ∉ G.1) : zW cy G S ++ [(q, zcell cy kd n (fun _ => 0) (fun _ => 0) (fun _ => none))] = zW cy (zGn G q kd n) (zSn S q) := by
  show ([] ++ va_pl G.1 (zF cy G S)) ++ [(q, zcell cy kd n (fun _ => 0) (fun _ => 0) (fun _ => none))] = [] ++ va_pl (G.1 ++ [q]) (zF cy (zGn G q kd n) (zSn S q))
  rw [List.append_assoc, va_pl_push h]
  refine congrArg (fun l => ([] : va_W) ++ l) (va_pl_congr (fun b => ?_))
  by_cases hb : b = q
  · subst hb; rw [va_up_self]; unfold zF zGn zSn; simp only [va_up_self]
  · rw [va_up_ne _ _ hb]; unfold zF zGn zSn; simp only [va_up_ne _ _ hb]
theorem zO.gn {G : zG} {a kd q kd' n : Nat} (h : zO G a kd) (hq : q ∉ G.1) : zO (zGn G q kd' n) a kd := ⟨List.mem_append_left _ h.1, by show va_up G.2.1 q kd' a = kd; rw [va_up_ne _ _ (fun c => hq (by rw [← c]; exact h.1))]; exact h.2⟩
theorem zO.nw (G : zG) (q kd n : Nat) : zO (zGn G q kd n) q kd := ⟨List.mem_append_right _ (List.mem_singleton.mpr rfl), va_up_self _ _ _⟩
theorem zO.ne {G : zG} {a kd q : Nat} (h : zO G a kd) (hq : q ∉ G.1) : a ≠ q := fun c => hq (by rw [← c]; exact h.1)
theorem zGn_len (G : zG) (q kd n : Nat) : (zGn G q kd n).2.2 q = n := va_up_self _ _ _
theorem zGn_len' {G : zG} {a q : Nat} (h : a ≠ q) (kd n : Nat) : (zGn G q kd n).2.2 a = G.2.2 a := va_up_ne _ _ h
theorem zK0 {D : va_G} {cl : List vw_C} {tys : List (ClassId × FieldType)} {s : State} (h : va_K D cl tys s) {k : Nat} {c : ClassId} {ty : FieldType} (hk : tys[k]? = some (c, ty)) : va_RA s c ty := (h.2 k _ hk).2
theorem zdef0 : ∀ j, j < 3 → defaultValue (tyX0 j) = vp_V [.null, .null, .int 0] j := by
  intro j hj
  match j, hj with
  | 0, _ => rfl
  | 1, _ => rfl
  | 2, _ => rfl
  | k + 3, hj => exact absurd hj (by omega)
theorem zdef1 : ∀ j, j < 9 → defaultValue (tyX1 j) = vp_V [.int 0, .int 0, .int 0, .int 0, .int 0, .long 0, .int 0, .null, .null] j := by
  intro j hj
  match j, hj with
  | 0, _ => rfl
  | 1, _ => rfl
  | 2, _ => rfl
  | 3, _ => rfl
  | 4, _ => rfl
  | 5, _ => rfl
  | 6, _ => rfl
  | 7, _ => rfl
  | 8, _ => rfl
  | k + 9, hj => exact absurd hj (by omega)
theorem zdef2 : ∀ j, j < 2 → defaultValue (tyX2 j) = vp_V [.int 0, .int 0] j := by
  intro j hj
  match j, hj with
  | 0, _ => rfl
  | 1, _ => rfl
  | k + 2, hj => exact absurd hj (by omega)
theorem zdef3 : ∀ j, j < 15 → defaultValue (tyX3 j) = vp_V [.int 0, .null, .null, .int 0, .null, .int 0, .int 0, .int 0, .int 0, .int 0, .int 0, .int 0, .int 0, .int 0, .int 0] j := by
  intro j hj
  match j, hj with
  | 0, _ => rfl
  | 1, _ => rfl
  | 2, _ => rfl
  | 3, _ => rfl
  | 4, _ => rfl
  | 5, _ => rfl
  | 6, _ => rfl
  | 7, _ => rfl
  | 8, _ => rfl
  | 9, _ => rfl
  | 10, _ => rfl
  | 11, _ => rfl
  | 12, _ => rfl
  | 13, _ => rfl
  | 14, _ => rfl
  | k + 15, hj => exact absurd hj (by omega)
theorem zdef4 : ∀ j, j < 7 → defaultValue (tyX4 j) = vp_V [.null, .long 0, .int 0, .int 0, .int 0, .int 0, .int 0] j := by
  intro j hj
  match j, hj with
  | 0, _ => rfl
  | 1, _ => rfl
  | 2, _ => rfl
  | 3, _ => rfl
  | 4, _ => rfl
  | 5, _ => rfl
  | 6, _ => rfl
  | k + 7, hj => exact absurd hj (by omega)
theorem zdef5 : ∀ j, j < 10 → defaultValue (tyX5 j) = vp_V [.null, .null, .int 0, .int 0, .int 0, .int 0, .int 0, .int 0, .int 0, .int 0] j := by
  intro j hj
  match j, hj with
  | 0, _ => rfl
  | 1, _ => rfl
  | 2, _ => rfl
  | 3, _ => rfl
  | 4, _ => rfl
  | 5, _ => rfl
  | 6, _ => rfl
  | 7, _ => rfl
  | 8, _ => rfl
  | 9, _ => rfl
  | k + 10, hj => exact absurd hj (by omega)
theorem zdef6 : ∀ j, j < 7 → defaultValue (tyX6 j) = vp_V [.null, .null, .null, .null, .int 0, .int 0, .long 0] j := by
  intro j hj
  match j, hj with
  | 0, _ => rfl
  | 1, _ => rfl
  | 2, _ => rfl
  | 3, _ => rfl
  | 4, _ => rfl
  | 5, _ => rfl
  | 6, _ => rfl
  | k + 7, hj => exact absurd hj (by omega)
theorem zdef7 : ∀ j, j < 42 → defaultValue (tyX7 j) = vp_V [.int 0, .null, .null, .null, .null, .null, .null, .null, .null, .int 0, .null, .null, .null, .null, .null, .null, .null, .null, .null, .null, .null, .null, .null, .null, .null, .null, .null, .null, .null, .null, .null, .null, .null, .int 0, .int 0, .int 0, .int 0, .int 0, .null, .null, .null, .int 0] j := by
  intro j hj
  match j, hj with
  | 0, _ => rfl
  | 1, _ => rfl
  | 2, _ => rfl
  | 3, _ => rfl
  | 4, _ => rfl
  | 5, _ => rfl
  | 6, _ => rfl
  | 7, _ => rfl
  | 8, _ => rfl
  | 9, _ => rfl
  | 10, _ => rfl
  | 11, _ => rfl
  | 12, _ => rfl
  | 13, _ => rfl
  | 14, _ => rfl
  | 15, _ => rfl
  | 16, _ => rfl
  | 17, _ => rfl
  | 18, _ => rfl
  | 19, _ => rfl
  | 20, _ => rfl
  | 21, _ => rfl
  | 22, _ => rfl
  | 23, _ => rfl
  | 24, _ => rfl
  | 25, _ => rfl
  | 26, _ => rfl
  | 27, _ => rfl
  | 28, _ => rfl
  | 29, _ => rfl
  | 30, _ => rfl
  | 31, _ => rfl
  | 32, _ => rfl
  | 33, _ => rfl
  | 34, _ => rfl
  | 35, _ => rfl
  | 36, _ => rfl
  | 37, _ => rfl
  | 38, _ => rfl
  | 39, _ => rfl
  | 40, _ => rfl
  | 41, _ => rfl
  | k + 42, hj => exact absurd hj (by omega)
section ZN
variable {p : Program} {l : Launch} {e : Env} {R : Room} {s : State} {m : MethodId} {args : Array Value} {below : List Frame} {meth : Method} {c : Code} {H : Heap} {locs : List Loc} {cells slots : Nat} {Q : State → Prop}
variable {cc : ByteArray} {pc : Nat} {ls : Array Slot} {rest st0 : List Value} {A : Nat → Prop} {H0 : Heap} {dC : Nat → ClassId} {dI : Nat → Nat → Nat} {cy : Nat → ClassId} {G : zG} {S : zS} {a : Nat}
theorem zfresh {D : va_G} {kd n q : Nat} (hD : va_D A (zW cy G S ++ [(q, zcell cy kd n (fun _ => 0) (fun _ => 0) (fun _ => none))])) : q ∉ G.1 := by
  intro hq
  obtain ⟨k, hk⟩ := va_pl_get (X := []) (f := zF cy G S) hq
  have hlt : k < (zW cy G S).length := (List.getElem?_eq_some_iff.mp hk).1
  have h1 : (zW cy G S ++ [(q, zcell cy kd n (fun _ => 0) (fun _ => 0) (fun _ => none))])[k]? = some (q, zF cy G S q) := by rw [List.getElem?_append_left hlt]; exact hk
  have h2 : (zW cy G S ++ [(q, zcell cy kd n (fun _ => 0) (fun _ => 0) (fun _ => none))])[(zW cy G S).length]? = some (q, zcell cy kd n (fun _ => 0) (fun _ => 0) (fun _ => none)) := by simp
  have := hD.1 _ _ _ _ h1 h2 rfl
  omega
theorem znewo (hx : p.tables.exec = Jvm.exec) (hb : c.code = cc) {own C : String} {T : u_T} {N ci index : Nat} {Ts : List Cond} (hts : ∀ w ∈ Ts, w.before args s = true) (hin : ∀ w ∈ u_ws C T N, w ∈ Ts) (ty : Nat → FieldType) (hty : ∀ k, k < N → parseFieldDescriptor (T k).2.2.1 = some (ty k)) (hown : s.vm.findClass own = some m.cls) (hcl : (Cond.classLink own index C).before args s = true) (hinst : (Cond.instantiable C N).before args s = true) (hini : (Cond.initialized C).before args s = true)
    (hK : va_K (dC, dI) vwCl (zT cy) s) (hP : va_P (dC, dI) vwCl (zW cy G S) H) (hD : va_D A (zW cy G S)) (hS : va_S A H0 H locs) (hA : ∀ q, H0.size ≤ q → A q) (hc : vwCl[ci]? = some (C, T, N)) {fs : List Value} (hfs : ∀ j, j < N → defaultValue (ty j) = vp_V fs j) (hcell : zcell cy ci 0 (fun _ => 0) (fun _ => 0) (fun _ => none) = .inr (ci, fs)) (hcells : cells + 1 ≤ R.cells) (hslots : slots + N ≤ R.slots) (hdg : decode cc pc = .ok (.new index, 3))
    (kk : ∀ (q : Nat) (H1 : Heap), q ∉ G.1 → va_P (dC, dI) vwCl (zW cy (zGn G q ci 0) (zSn S q)) H1 → va_D A (zW cy (zGn G q ci 0) (zSn S q)) → va_S A H0 H1 locs → W p l e R s m args below meth c H1 locs (cells + 1) (slots + N) Q (F0 m (pc + 3) ls (.ref q :: rest))) : W p l e R s m args below meth c H locs cells slots Q (F0 m pc ls rest) := by
  refine va_new hx hb hts hin ty hty hown hcl hinst hini hK hP hD hS hA hc hfs hcells hslots hdg (fun q H1 h1 h2 h3 => ?_)
  rw [← hcell] at h1 h2
  have hq : q ∉ G.1 := zfresh (D := (dC, dI)) h2
  rw [zWn ci 0 hq] at h1 h2
  exact kk q H1 hq h1 h2 h3

theorem znewai (hx : p.tables.exec = Jvm.exec) (hb : c.code = cc) (harr : (Cond.arrayClass .int).before args s = true) (hK : va_K (dC, dI) vwCl (zT cy) s) (hP : va_P (dC, dI) vwCl (zW cy G S) H) (hD : va_D A (zW cy G S)) (hS : va_S A H0 H locs) (hA : ∀ q, H0.size ≤ q → A q)
    {n : Int32} {N' : Nat} (hn : ¬ n < 0) (hN : n.toNatClampNeg = N') (hbytes : N' * componentBytes .int ≤ 536870912) (hcells : cells + 1 ≤ R.cells) (hslots : slots + N' ≤ R.slots) (hdg : decode cc pc = .ok (.newarray .int, 2))
    (kk : ∀ (q : Nat) (H1 : Heap), q ∉ G.1 → va_P (dC, dI) vwCl (zW cy (zGn G q 8 N') (zSn S q)) H1 → va_D A (zW cy (zGn G q 8 N') (zSn S q)) → va_S A H0 H1 locs → W p l e R s m args below meth c H1 locs (cells + 1) (slots + N') Q (F0 m (pc + 2) ls (.ref q :: rest))) : W p l e R s m args below meth c H locs cells slots Q (F0 m pc ls (.int n :: rest)) := by
  refine va_newa hx hb (atype := .int) harr (ty := .int) rfl hK hP hD hS hA (a0 := (N', .inl (fun _ => 0))) (fun _ => rfl) hn hN hbytes hcells hslots hdg (fun q cA H1 hK1 h1 h2 h3 => ?_)
  have e1 : s.vm.findClass ("[" ++ (.int : FieldType).toString) = some (cy 0) := zK0 hK (k := 0) rfl
  have e2 : s.vm.findClass ("[" ++ (.int : FieldType).toString) = some cA := zK0 hK1 (k := 5) rfl
  cases Option.some.inj (e1.symm.trans e2)
  have hq : q ∉ G.1 := zfresh (D := (dC, dI)) (kd := 8) (n := N') h2
  have h1' : va_P (dC, dI) vwCl (zW cy (zGn G q 8 N') (zSn S q)) H1 := by rw [← zWn 8 N' hq]; exact h1
  have h2' : va_D A (zW cy (zGn G q 8 N') (zSn S q)) := by rw [← zWn 8 N' hq]; exact h2
  exact kk q H1 hq h1' h2' h3
theorem znewal (hx : p.tables.exec = Jvm.exec) (hb : c.code = cc) (harr : (Cond.arrayClass .long).before args s = true) (hK : va_K (dC, dI) vwCl (zT cy) s) (hP : va_P (dC, dI) vwCl (zW cy G S) H) (hD : va_D A (zW cy G S)) (hS : va_S A H0 H locs) (hA : ∀ q, H0.size ≤ q → A q)
    {n : Int32} {N' : Nat} (hn : ¬ n < 0) (hN : n.toNatClampNeg = N') (hbytes : N' * componentBytes .long ≤ 536870912) (hcells : cells + 1 ≤ R.cells) (hslots : slots + N' ≤ R.slots) (hdg : decode cc pc = .ok (.newarray .long, 2))
    (kk : ∀ (q : Nat) (H1 : Heap), q ∉ G.1 → va_P (dC, dI) vwCl (zW cy (zGn G q 9 N') (zSn S q)) H1 → va_D A (zW cy (zGn G q 9 N') (zSn S q)) → va_S A H0 H1 locs → W p l e R s m args below meth c H1 locs (cells + 1) (slots + N') Q (F0 m (pc + 2) ls (.ref q :: rest))) : W p l e R s m args below meth c H locs cells slots Q (F0 m pc ls (.int n :: rest)) := by
  refine va_newa hx hb (atype := .long) harr (ty := .long) rfl hK hP hD hS hA (a0 := (N', .inr (.inl (fun _ => 0)))) (fun _ => rfl) hn hN hbytes hcells hslots hdg (fun q cA H1 hK1 h1 h2 h3 => ?_)
  have e1 : s.vm.findClass ("[" ++ (.long : FieldType).toString) = some (cy 1) := zK0 hK (k := 1) rfl
  have e2 : s.vm.findClass ("[" ++ (.long : FieldType).toString) = some cA := zK0 hK1 (k := 5) rfl
  cases Option.some.inj (e1.symm.trans e2)
  have hq : q ∉ G.1 := zfresh (D := (dC, dI)) (kd := 9) (n := N') h2
  have h1' : va_P (dC, dI) vwCl (zW cy (zGn G q 9 N') (zSn S q)) H1 := by rw [← zWn 9 N' hq]; exact h1
  have h2' : va_D A (zW cy (zGn G q 9 N') (zSn S q)) := by rw [← zWn 9 N' hq]; exact h2
  exact kk q H1 hq h1' h2' h3
theorem znewaz (hx : p.tables.exec = Jvm.exec) (hb : c.code = cc) (harr : (Cond.arrayClass .boolean).before args s = true) (hK : va_K (dC, dI) vwCl (zT cy) s) (hP : va_P (dC, dI) vwCl (zW cy G S) H) (hD : va_D A (zW cy G S)) (hS : va_S A H0 H locs) (hA : ∀ q, H0.size ≤ q → A q)
    {n : Int32} {N' : Nat} (hn : ¬ n < 0) (hN : n.toNatClampNeg = N') (hbytes : N' * componentBytes .boolean ≤ 536870912) (hcells : cells + 1 ≤ R.cells) (hslots : slots + N' ≤ R.slots) (hdg : decode cc pc = .ok (.newarray .boolean, 2))
    (kk : ∀ (q : Nat) (H1 : Heap), q ∉ G.1 → va_P (dC, dI) vwCl (zW cy (zGn G q 10 N') (zSn S q)) H1 → va_D A (zW cy (zGn G q 10 N') (zSn S q)) → va_S A H0 H1 locs → W p l e R s m args below meth c H1 locs (cells + 1) (slots + N') Q (F0 m (pc + 2) ls (.ref q :: rest))) : W p l e R s m args below meth c H locs cells slots Q (F0 m pc ls (.int n :: rest)) := by
  refine va_newa hx hb (atype := .boolean) harr (ty := .boolean) rfl hK hP hD hS hA (a0 := (N', .inl (fun _ => 0))) (fun _ => rfl) hn hN hbytes hcells hslots hdg (fun q cA H1 hK1 h1 h2 h3 => ?_)
  have e1 : s.vm.findClass ("[" ++ (.boolean : FieldType).toString) = some (cy 2) := zK0 hK (k := 2) rfl
  have e2 : s.vm.findClass ("[" ++ (.boolean : FieldType).toString) = some cA := zK0 hK1 (k := 5) rfl
  cases Option.some.inj (e1.symm.trans e2)
  have hq : q ∉ G.1 := zfresh (D := (dC, dI)) (kd := 10) (n := N') h2
  have h1' : va_P (dC, dI) vwCl (zW cy (zGn G q 10 N') (zSn S q)) H1 := by rw [← zWn 10 N' hq]; exact h1
  have h2' : va_D A (zW cy (zGn G q 10 N') (zSn S q)) := by rw [← zWn 10 N' hq]; exact h2
  exact kk q H1 hq h1' h2' h3
theorem znewqf (hx : p.tables.exec = Jvm.exec) (hb : c.code = cc) {own : String} {index : Nat} (hown : s.vm.findClass own = some m.cls) (hclink : (Cond.classLink own index RX1).before args s = true) (hover : va_AO RX1 s) (hK : va_K (dC, dI) vwCl (zT cy) s) (hP : va_P (dC, dI) vwCl (zW cy G S) H) (hD : va_D A (zW cy G S)) (hS : va_S A H0 H locs) (hA : ∀ q, H0.size ≤ q → A q)
    {n : Int32} {N' : Nat} (hn : ¬ n < 0) (hN : n.toNatClampNeg = N') (hbytes : N' * 4 ≤ 536870912) (hcells : cells + 1 ≤ R.cells) (hslots : slots + N' ≤ R.slots) (hdg : decode cc pc = .ok (.anewarray index, 3))
    (kk : ∀ (q : Nat) (H1 : Heap), q ∉ G.1 → va_P (dC, dI) vwCl (zW cy (zGn G q 11 N') (zSn S q)) H1 → va_D A (zW cy (zGn G q 11 N') (zSn S q)) → va_S A H0 H1 locs → W p l e R s m args below meth c H1 locs (cells + 1) (slots + N') Q (F0 m (pc + 3) ls (.ref q :: rest))) : W p l e R s m args below meth c H locs cells slots Q (F0 m pc ls (.int n :: rest)) := by
  refine va_newq hx hb hown hclink hover hK hP hD hS hA hn hN hbytes hcells hslots hdg (fun q cA H1 hK1 h1 h2 h3 => ?_)
  obtain ⟨_, _, _, _, _, e1⟩ : va_RA s (cy 3) (.object RX1) := zK0 hK (k := 3) rfl
  obtain ⟨_, _, _, _, _, e2⟩ : va_RA s cA (.object RX1) := zK0 hK1 (k := 5) rfl
  cases Option.some.inj (e1.symm.trans e2)
  have hq : q ∉ G.1 := zfresh (D := (dC, dI)) (kd := 11) (n := N') h2
  have h1' : va_P (dC, dI) vwCl (zW cy (zGn G q 11 N') (zSn S q)) H1 := by rw [← zWn 11 N' hq]; exact h1
  have h2' : va_D A (zW cy (zGn G q 11 N') (zSn S q)) := by rw [← zWn 11 N' hq]; exact h2
  exact kk q H1 hq h1' h2' h3
theorem znewqn (hx : p.tables.exec = Jvm.exec) (hb : c.code = cc) {own : String} {index : Nat} (hown : s.vm.findClass own = some m.cls) (hclink : (Cond.classLink own index RX3).before args s = true) (hover : va_AO RX3 s) (hK : va_K (dC, dI) vwCl (zT cy) s) (hP : va_P (dC, dI) vwCl (zW cy G S) H) (hD : va_D A (zW cy G S)) (hS : va_S A H0 H locs) (hA : ∀ q, H0.size ≤ q → A q)
    {n : Int32} {N' : Nat} (hn : ¬ n < 0) (hN : n.toNatClampNeg = N') (hbytes : N' * 4 ≤ 536870912) (hcells : cells + 1 ≤ R.cells) (hslots : slots + N' ≤ R.slots) (hdg : decode cc pc = .ok (.anewarray index, 3))
    (kk : ∀ (q : Nat) (H1 : Heap), q ∉ G.1 → va_P (dC, dI) vwCl (zW cy (zGn G q 12 N') (zSn S q)) H1 → va_D A (zW cy (zGn G q 12 N') (zSn S q)) → va_S A H0 H1 locs → W p l e R s m args below meth c H1 locs (cells + 1) (slots + N') Q (F0 m (pc + 3) ls (.ref q :: rest))) : W p l e R s m args below meth c H locs cells slots Q (F0 m pc ls (.int n :: rest)) := by
  refine va_newq hx hb hown hclink hover hK hP hD hS hA hn hN hbytes hcells hslots hdg (fun q cA H1 hK1 h1 h2 h3 => ?_)
  obtain ⟨_, _, _, _, _, e1⟩ : va_RA s (cy 4) (.object RX3) := zK0 hK (k := 4) rfl
  obtain ⟨_, _, _, _, _, e2⟩ : va_RA s cA (.object RX3) := zK0 hK1 (k := 5) rfl
  cases Option.some.inj (e1.symm.trans e2)
  have hq : q ∉ G.1 := zfresh (D := (dC, dI)) (kd := 12) (n := N') h2
  have h1' : va_P (dC, dI) vwCl (zW cy (zGn G q 12 N') (zSn S q)) H1 := by rw [← zWn 12 N' hq]; exact h1
  have h2' : va_D A (zW cy (zGn G q 12 N') (zSn S q)) := by rw [← zWn 12 N' hq]; exact h2
  exact kk q H1 hq h1' h2' h3
theorem zfast (hx : p.tables.exec = Jvm.exec) (hb : c.code = cc) (hK : va_K (dC, dI) vwCl (zT cy) s) (hP : va_P (dC, dI) vwCl (zW cy G S) H) (hD : va_D A (zW cy G S)) (hS : va_S A H0 H locs) (h : zO G a 11) {n : Nat} (hn : G.2.2 a = n) {v : Nat} (hv : zO G v 1) {i : Int32} (hin : vp_in i n) (hdg : decode cc pc = .ok (.aastore, 1))
    (kk : ∀ (H1 : Heap) (locs1 : List Loc), va_P (dC, dI) vwCl (zW cy G (zpq S a i.toNatClampNeg (some v))) H1 → va_D A (zW cy G (zpq S a i.toNatClampNeg (some v))) → va_S A H0 H1 locs1 → W p l e R s m args below meth c H1 locs1 cells slots Q (F0 m (pc + 1) ls rest)) : W p l e R s m args below meth c H locs cells slots Q (F0 m pc ls (.ref v :: .int i :: .ref a :: rest)) := by
  obtain ⟨q0, he⟩ := zg (cy := cy) S h
  obtain ⟨q1, hv⟩ := zg (cy := cy) S hv
  have e9 := zsetq (j := i.toNatClampNeg) (v := some v) hD h he rfl
  exact va_astq hx hb hK hP hD hS q0 3 q1 1 (r := (RX1, TX1, 9)) he rfl hv rfl (by rw [hn]; exact hin) hdg (fun H1 locs1 h1 h2 h3 => kk H1 locs1 (e9 ▸ h1) (e9 ▸ h2) h3)
theorem znast (hx : p.tables.exec = Jvm.exec) (hb : c.code = cc) (hK : va_K (dC, dI) vwCl (zT cy) s) (hP : va_P (dC, dI) vwCl (zW cy G S) H) (hD : va_D A (zW cy G S)) (hS : va_S A H0 H locs) (h : zO G a 12) {n : Nat} (hn : G.2.2 a = n) {v : Nat} (hv : zO G v 3) {i : Int32} (hin : vp_in i n) (hdg : decode cc pc = .ok (.aastore, 1))
    (kk : ∀ (H1 : Heap) (locs1 : List Loc), va_P (dC, dI) vwCl (zW cy G (zpq S a i.toNatClampNeg (some v))) H1 → va_D A (zW cy G (zpq S a i.toNatClampNeg (some v))) → va_S A H0 H1 locs1 → W p l e R s m args below meth c H1 locs1 cells slots Q (F0 m (pc + 1) ls rest)) : W p l e R s m args below meth c H locs cells slots Q (F0 m pc ls (.ref v :: .int i :: .ref a :: rest)) := by
  obtain ⟨q0, he⟩ := zg (cy := cy) S h
  obtain ⟨q1, hv⟩ := zg (cy := cy) S hv
  have e9 := zsetq (j := i.toNatClampNeg) (v := some v) hD h he rfl
  exact va_astq hx hb hK hP hD hS q0 4 q1 3 (r := (RX3, TX3, 15)) he rfl hv rfl (by rw [hn]; exact hin) hdg (fun H1 locs1 h1 h2 h3 => kk H1 locs1 (e9 ▸ h1) (e9 ▸ h2) h3)
theorem zcallV {mc ms : Nat} {post : zG × zS → Prop} {a0 : Array Value} (hr : va_Run p l e R s m args below meth c H locs cells slots mc ms (F0 m pc ls st0) rest (va_Qv post (fun u => zB dC dI cy (zA cy G S H.size) u.1 u.2) (zA cy G S H.size) a0) (zA cy G S H.size)) (hS : va_S A H0 H locs) (hD : va_D A (zW cy G S)) (hA : ∀ q, H0.size ≤ q → A q)
    (kk : ∀ (u : zG × zS) (H1 : Heap) (locs1 : List Loc), post u → va_P (dC, dI) vwCl (zW cy u.1 u.2) H1 → va_D A (zW cy u.1 u.2) → va_S A H0 H1 locs1 → W p l e R s m args below meth c H1 locs1 (cells + mc) (slots + ms) Q (F0 m (pc + 3) ls rest)) : W p l e R s m args below meth c H locs cells slots Q (F0 m pc ls st0) := by
  have hF := zfree hD hS hA
  refine va_callv hr hS (fun q _ h => hF q h) hF (fun u t H1 locs1 ht _ hw hB _ _ hS1 => ?_)
  obtain ⟨hP1, _, hD1⟩ := hB
  rw [ht] at hP1
  exact kk u H1 locs1 hw hP1 (hD1.weaken (fun _ q _ h => hF q.1 h)) hS1
end ZN
