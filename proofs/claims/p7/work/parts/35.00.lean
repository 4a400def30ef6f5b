def zg0 : zG := ([], fun _ => 0, fun _ => 0)
def zs0 : zS := (fun _ _ => 0, fun _ _ => 0, fun _ _ => none)
theorem zw0 {cy : Nat → ClassId} : zW cy zg0 zs0 = [] := rfl
theorem zstr {own tx : String} {k cur : Nat} {args : Array Value} {s : State} (hcur : s.vm.findClass own = some cur) (h : (Cond.stringRef own k tx).before args s = true) : ∃ q, vk_R own k tx q s := by
  have h0 : (Cond.stringRef own k tx).before #[] s = true := h
  obtain ⟨_, _, _, a, -, -, -, -, -, hv⟩ := Cond.stringRef_spec hcur h0
  exact ⟨a, h0, hv⟩
theorem zhalf {cy : Nat → ClassId} {G : zG} {S : zS} {q : Nat} {A : Nat → Prop} {D : va_G} {H : Heap} (hq : q ∉ G.1) (hP : va_P D vwCl (zW cy (zGn G q 7 0) (zSn S q)) H) (hD : va_D A (zW cy (zGn G q 7 0) (zSn S q))) :
    va_P D vwCl (zW cy G S) H ∧ va_D A (zW cy G S) ∧ va_P D vwCl (zW cy (zGn zg0 q 7 0) (zSn zs0 q)) H ∧ va_D A (zW cy (zGn zg0 q 7 0) (zSn zs0 q)) ∧ zAp (zW cy G S) (zW cy (zGn zg0 q 7 0) (zSn zs0 q)) := by
  rw [← zWn 7 0 hq] at hP hD
  rw [← zWn (cy := cy) (G := zg0) (S := zs0) (q := q) 7 0 (fun h => by cases h), zw0]
  exact ⟨zP_l hP, zD_l hD, zP_r hP, zD_r hD, fun i j p q hi hj => zD_x hD hi hj⟩
theorem zmp0 (q : Nat) : zMp (zGn zg0 q 7 0) (zSn zs0 q) q (fun _ => 0) 0 (fun _ => 0) := by
  refine ⟨zO.nw zg0 q 7 0, fun k h => absurd h (Nat.not_lt_zero k), fun i j h => absurd h (Nat.not_lt_zero i), fun k => ?_⟩
  rw [zSn_1]; split <;> rfl
theorem zpre6 {dC : Nat → ClassId} {dI : Nat → Nat → Nat} {cy : Nat → ClassId} {G : zG} {S : zS} {s : State} {H : Heap} {A : Nat → Prop} {As : List Value} (hK : va_K (dC, dI) vwCl (zT cy) s) (hP : va_P (dC, dI) vwCl (zW cy G S) H) (hD : va_D A (zW cy G S)) (hN : zN s) (h1 : va_AO RX1 s) (h3 : va_AO RX3 s) : PreS s H (va_Pc As (fun U => zU dC dI cy G S H.size U ∧ va_AO RX1 U ∧ va_AO RX3 U)) As :=
  ⟨fun a U g mk q => by
    obtain ⟨q0, ⟨q1, qP, qK, qD, qN⟩, qa, qb⟩ := q
    exact ⟨q0, ⟨q1, qP, va_K.moved (u := U) (U := U.calling g mk a) (Vm.Alike.refl U.vm) qK, qD, zN.vm (s := U) (U := U.calling g mk a) rfl qN⟩, va_AO.moved (u := U) (U := U.calling g mk a) (Vm.Alike.refl U.vm) qa, va_AO.moved (u := U) (U := U.calling g mk a) (Vm.Alike.refl U.vm) qb⟩, fun U hU hW => ⟨rfl, ⟨by rw [hU], by rw [hU]; exact hP, va_K.moved hW.alike hK, hD.weaken (fun _ _ _ _ => trivial), zN.warm hW hN⟩, va_AO.moved hW.alike h1, va_AO.moved hW.alike h3⟩⟩
section ZU
variable {p : Program} {l : Launch} {e : Env} {R : Room} {s : State} {m : MethodId} {args : Array Value} {below : List Frame} {meth : Method} {c : Code} {H : Heap} {locs : List Loc} {cells slots : Nat} {Q : State → Prop}
variable {pc : Nat} {ls : Array Slot} {rest : List Value} {A : Nat → Prop} {H0 : Heap} {dC : Nat → ClassId} {dI : Nat → Nat → Nat} {cy : Nat → ClassId} {G1 G2 : zG} {S1 S2 : zS} {cc : ByteArray}
theorem znew2l (hx : p.tables.exec = Jvm.exec) (hb : c.code = cc) (harr : (Cond.arrayClass .long).before args s = true) (hK : va_K (dC, dI) vwCl (zT cy) s) (hP1 : va_P (dC, dI) vwCl (zW cy G1 S1) H) (hD1 : va_D A (zW cy G1 S1)) (hP2 : va_P (dC, dI) vwCl (zW cy G2 S2) H) (hD2 : va_D A (zW cy G2 S2)) (hAp : zAp (zW cy G1 S1) (zW cy G2 S2)) (hS : va_S A H0 H locs) (hA : ∀ q, H0.size ≤ q → A q)
    (hcells : cells + 1 ≤ R.cells) (hslots : slots + 1 ≤ R.slots) (hdg : decode cc pc = .ok (.newarray .long, 2))
    (kk : ∀ (q : Nat) (H1 : Heap), q ∉ G1.1 → va_P (dC, dI) vwCl (zW cy (zGn G1 q 9 1) (zSn S1 q)) H1 → va_D A (zW cy (zGn G1 q 9 1) (zSn S1 q)) → va_P (dC, dI) vwCl (zW cy G2 S2) H1 → zAp (zW cy (zGn G1 q 9 1) (zSn S1 q)) (zW cy G2 S2) → va_S A H0 H1 locs → W p l e R s m args below meth c H1 locs (cells + 1) (slots + 1) Q (F0 m (pc + 2) ls (.ref q :: rest))) : W p l e R s m args below meth c H locs cells slots Q (F0 m pc ls (.int 1 :: rest)) := by
  refine va_newa hx hb (atype := .long) harr (ty := .long) rfl hK (zP_app hP1 hP2) (zD_app hD1 hD2 hAp) hS hA (N' := 1) (a0 := (1, .inr (.inl (fun _ => 0)))) (fun _ => rfl) (by decide) (by decide) (by decide) hcells hslots hdg (fun q cA H1 hK1 h1 h2 h3 => ?_)
  have e1 : s.vm.findClass ("[" ++ (.long : FieldType).toString) = some (cy 1) := zK0 hK (k := 1) rfl
  have e2 : s.vm.findClass ("[" ++ (.long : FieldType).toString) = some cA := zK0 hK1 (k := 5) rfl
  cases Option.some.inj (e1.symm.trans e2)
  have up : ∀ {i : Nat} {x : Nat × va_E}, (zW cy G1 S1)[i]? = some x → (zW cy G1 S1 ++ zW cy G2 S2)[i]? = some x := fun {i} {x} h => by
    rw [List.getElem?_append_left (List.getElem?_eq_some_iff.mp h).1]; exact h
  have h1c : va_P (dC, dI) vwCl (zW cy G1 S1 ++ [(q, zcell cy 9 1 (fun _ => 0) (fun _ => 0) (fun _ => none))]) H1 := zP_app (zP_l (zP_l h1)) (zP_r h1)
  have h2c : va_D A (zW cy G1 S1 ++ [(q, zcell cy 9 1 (fun _ => 0) (fun _ => 0) (fun _ => none))]) := zD_app (zD_l (zD_l h2)) (zD_r h2) (fun i j x y hi hj => zD_x h2 (up hi) hj)
  have hq : q ∉ G1.1 := zfresh (D := (dC, dI)) (kd := 9) (n := 1) h2c
  rw [zWn 9 1 hq] at h1c h2c
  refine kk q H1 hq h1c h2c (zP_r (zP_l h1)) ?_ h3
  rw [← zWn 9 1 hq]
  intro i j x y hi hj
  by_cases z : i < (zW cy G1 S1).length
  · rw [List.getElem?_append_left z] at hi
    exact zD_x (zD_l h2) hi hj
  · rw [List.getElem?_append_right (by omega)] at hi
    have hj' : (zW cy G1 S1 ++ zW cy G2 S2)[(zW cy G1 S1).length + j]? = some y := by
      rw [List.getElem?_append_right (by omega)]; simpa using hj
    exact (zD_x h2 hj' hi).symm
end ZU
/-- class and reference as they are made -/
def zF0 (x f n sc d mo : Nat) (ad : Nat → Nat) (S1 S2 : zS) : Prop := ((S1.1 x 4 = 0 ∧ S1.2.1 x 6 = -1) ∧ (∀ j, S1.2.2 f j = none) ∧ (S1.1 sc 3 = -1 ∧ S1.1 sc 4 = 0) ∧ S1.1 d 2 = 0 ∧ ∀ j a, j < 8 → S1.2.2 n j = some a → S1.1 a 6 = 1 ∧ S1.1 a 10 = 0 ∧ S1.1 a 11 = 0 ∧ S1.1 a 12 = 0 ∧ S1.1 a 13 = 0 ∧ S1.1 a 14 = 0) ∧ (S2.1 mo 33 = 0 ∧ S2.1 mo 34 = -1 ∧ S2.1 mo 36 = 0 ∧ S2.1 mo 41 = 0) ∧ (∀ j, S2.1 (ad 1) j = 0) ∧ (∀ j, j < 8 → S2.1 (ad 16) j = 1) ∧ ∀ j, S2.1 (ad 17) j = 0 ∧ S2.1 (ad 18) j = 0 ∧ S2.1 (ad 19) j = 0 ∧ S2.1 (ad 20) j = 0 ∧ S2.1 (ad 21) j = 0
theorem zstart {x f n sc ia na d ka va o mo : Nat} {ad : Nat → Nat} {G G2 : zG} {S S2 : zS} (h : zMk x f n sc ia na d ka va 8 G S) (ho : o ∉ G.1) (hm : zMi G2 S2 mo ad) : zCI (zGn G o 9 1) (zSn S o) x f n sc ia na d ka va o ∧ zMI G2 S2 mo ad ∧ zRl x f n sc mo ad (zSn S o) S2 ∧ zRy f ad (zSn S o) S2 ∧ zF0 x f n sc d mo ad (zSn S o) S2 := by
  obtain ⟨⟨⟨x0, x1, x2, x3, x4⟩, x5, x6, x7⟩, ⟨⟨f0, f1, f2⟩, n0, n1⟩, ⟨⟨s0, s1, s2, s3, s4, s5, s6⟩, s7, s8, s9⟩, ⟨⟨d0, d1, d2, d3, d4, d5, d6⟩, d7⟩, hn, hinj, h0⟩ := h
  obtain ⟨m1, m2, ⟨m3, m4, m5⟩, ⟨m6, m7, m8⟩, m9, mz, m34, m36, m41⟩ := hm
  have gn : ∀ {a kd : Nat}, zO G a kd → zO (zGn G o 9 1) a kd := fun h => h.gn ho
  have ln : ∀ {a kd : Nat}, zO G a kd → (zGn G o 9 1).2.2 a = G.2.2 a := fun h => zGn_len' (h.ne ho) 9 1
  have e1 : ∀ {a kd : Nat}, zO G a kd → ∀ j, (zSn S o).1 a j = S.1 a j := fun h j => by rw [zSn_1, if_neg (h.ne ho)]
  have e2 : ∀ {a kd : Nat}, zO G a kd → ∀ j, (zSn S o).2.2 a j = S.2.2 a j := fun h j => by rw [zSn_22, if_neg (h.ne ho)]
  have e3 : ∀ {a kd : Nat}, zO G a kd → ∀ j, (zSn S o).2.1 a j = S.2.1 a j := fun h j => by rw [zSn_21, if_neg (h.ne ho)]
  have nof : ∀ j y, ¬ (zSn S o).2.2 f j = some y := fun j y hy => by rw [e2 f0, f2 j] at hy; cases hy
  have nor : ∀ r y, (zGn G o 9 1).2.1 r = 4 → ¬ (zSn S o).2.2 r 0 = some y := fun r y hr hy => by
    by_cases z : r = o
    · rw [z, (zO.nw G o 9 1).2] at hr; cases hr
    · rw [zSn_22, if_neg z] at hy
      have : G.2.1 r = 4 := by rw [← hr]; exact (va_up_ne _ _ z).symm
      rw [h0 r this] at hy; cases hy
  refine ⟨⟨⟨gn x0, (e2 x0 0).trans x1, (e2 x0 1).trans x2, (e2 x0 2).trans x3, (e2 x0 3).trans x4, ⟨gn f0, (ln f0).trans f1, fun j y _ hy => absurd hy (nof j y)⟩, ⟨gn n0, (ln n0).trans n1, fun j hj => ?_⟩, ⟨gn s0, (e2 s0 0).trans s1, (e2 s0 1).trans s2, gn s3, (ln s3).trans s4, gn s5, (ln s5).trans s6⟩, ⟨gn d0, (e2 d0 0).trans d1, (e2 d0 1).trans d2, gn d3, (ln d3).trans d4, gn d5, (ln d5).trans d6⟩, fun r y hr hy => absurd hy (nor r y hr)⟩, ⟨zO.nw G o 9 1, zGn_len G o 9 1⟩, fun i j hi hj e => hinj i j hi hj ?_⟩, ⟨m1, m2, m9, fun _ => m5⟩, ⟨?_, ?_, fun j hj => ?_, fun j a hj ha => ?_⟩, fun j y hj hy => absurd hy (nof j y), ⟨⟨(e1 x0 4).trans x5, (e3 x0 6).trans x7⟩, fun j => (e2 f0 j).trans (f2 j), ⟨(e1 s0 3).trans s8, (e1 s0 4).trans s9⟩, (e1 d0 2).trans d7, fun j a hj ha => ?_⟩, ⟨m6, m34, m36, m41⟩, m3, m5, fun j => ⟨mz 17 (by decide) (by decide) j, mz 18 (by decide) (by decide) j, mz 19 (by decide) (by decide) j, mz 20 (by decide) (by decide) j, mz 21 (by decide) (by decide) j⟩⟩
  · obtain ⟨a, i, r, g1, ⟨g2, g3, g4, g5, g6⟩, -⟩ := hn j hj
    exact ⟨a, i, r, (e2 n0 j).trans g1, gn g2, (e2 g2 1).trans g3, (e2 g2 2).trans g4, gn g5, gn g6⟩
  · rw [← e2 n0 i, ← e2 n0 j]; exact e
  · rw [e1 x0, x5, m6]
  · rw [e1 s0, s7, m7]
  · rw [e2 f0, f2 j, m3 j, if_pos rfl]; rfl
  · obtain ⟨a', i, r, g1, g2, g3⟩ := hn j hj
    rw [e2 n0, g1] at ha
    cases Option.some.inj ha
    rw [e1 g2.1, g3.2.1, m4 j]
  · obtain ⟨a', i, r, g1, g2, g3⟩ := hn j hj
    rw [e2 n0, g1] at ha
    cases Option.some.inj ha
    rw [e1 g2.1, e1 g2.1, e1 g2.1, e1 g2.1, e1 g2.1, e1 g2.1]
    exact g3.2.2
