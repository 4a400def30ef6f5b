theorem zArr {args : Array Value} {s : State} {ty : FieldType} (h : (Cond.arrayClass ty).before args s = true) : ∃ cA, ArrOfT s cA ty ∧ s.vm.findClass ("[" ++ ty.toString) = some cA := by
  obtain ⟨c, k, comp, h1, h2, h3⟩ := Cond.arrayClass_spec h
  exact ⟨c, fun n z => ⟨fun k h => (by cases h), k, h2, comp, h3⟩, h1⟩
theorem zArrO {C : String} {s : State} (h : va_AO C s) : ∃ cA, ArrOfT s cA (.object C) ∧ va_RA s cA (.object C) := by
  obtain ⟨comp, c, k, h1, h2, h3, h4, h5⟩ := Cond.arrayOver_spec h
  exact ⟨c, fun n z => ⟨fun k h => (by cases h), k, h3, comp, h4⟩, k, comp, h3, h4, h1, h5⟩
theorem zpreSy {dC : Nat → ClassId} {dI : Nat → Nat → Nat} {cy : Nat → ClassId} {G : zG} {S : zS} {s : State} {H : Heap} {locs : List Loc} {A : Nat → Prop} {As : List Value} (hK : va_K (dC, dI) vwCl (zT cy) s) (hP : va_P (dC, dI) vwCl (zW cy G S) H) (hD : va_D A (zW cy G S)) (hN : zN s) (hE : zEx A s s.heap) (hS : va_S A s.heap H locs) (hA : ∀ q, s.heap.size ≤ q → A q) (hNc : va_Nc "java/lang/IllegalStateException" "java/lang/IllegalArgumentException" s) : PreS s H (zPy dC dI cy As G S H.size) As :=
  ⟨zblindy, fun U hU hW => ⟨rfl, ⟨⟨by rw [hU], by rw [hU]; exact hP, va_K.moved hW.alike hK, hD.weaken (fun _ _ _ _ => trivial), zN.warm hW hN⟩, hE.call hS (zfree hD hS hA) hW hU⟩, hNc.moved hW.alike⟩⟩
section Z2
variable {p : Program} {l : Launch} {e : Env} {R : Room} {s : State} {m : MethodId} {args : Array Value} {below : List Frame} {meth : Method} {c : Code} {H : Heap} {locs : List Loc} {cells slots mc ms : Nat} {Q : State → Prop}
variable {pc : Nat} {ls : Array Slot} {rest st0 : List Value} {A : Nat → Prop} {H0 : Heap} {dC : Nat → ClassId} {dI : Nat → Nat → Nat} {cy : Nat → ClassId} {G : zG} {S : zS} {wo : va_W}
theorem zc2i {post : Int32 → zS → Prop} {a0 : Array Value} (hr : va_Run p l e R s m args below meth c H locs cells slots mc ms (F0 m pc ls st0) rest (va_Qi post (zB dC dI cy (zA cy G S H.size) G) (zA cy G S H.size) a0) (zA cy G S H.size)) (hS : va_S A H0 H locs) (hD : va_D A (zW cy G S)) (hA : ∀ q, H0.size ≤ q → A q) (hPo : va_P (dC, dI) vwCl wo H) (hxo : zAp (zW cy G S) wo)
    (kk : ∀ (r : Int32) (S' : zS) (H1 : Heap) (locs1 : List Loc), post r S' → va_P (dC, dI) vwCl (zW cy G S') H1 → va_D A (zW cy G S') → va_P (dC, dI) vwCl wo H1 → zAp (zW cy G S') wo → va_S A H0 H1 locs1 → W p l e R s m args below meth c H1 locs1 (cells + mc) (slots + ms) Q (F0 m (pc + 3) ls (.int r :: rest))) : W p l e R s m args below meth c H locs cells slots Q (F0 m pc ls st0) := by
  have hF := zfree hD hS hA
  refine va_calli hr hS (fun q _ h => hF q h) hF (fun r u t H1 locs1 ht _ hw hB _ hk1 hS1 => ?_)
  obtain ⟨hP1, _, hD1⟩ := hB
  rw [ht] at hP1
  obtain ⟨ho1, ho2⟩ := zother (A := A) hPo hxo hk1 hD1
  exact kk r u H1 locs1 hw hP1 (hD1.weaken (fun _ q _ h => hF q.1 h)) ho1 ho2 hS1
theorem zc2v {post : zS → Prop} {a0 : Array Value} (hr : va_Run p l e R s m args below meth c H locs cells slots mc ms (F0 m pc ls st0) rest (va_Qv post (zB dC dI cy (zA cy G S H.size) G) (zA cy G S H.size) a0) (zA cy G S H.size)) (hS : va_S A H0 H locs) (hD : va_D A (zW cy G S)) (hA : ∀ q, H0.size ≤ q → A q) (hPo : va_P (dC, dI) vwCl wo H) (hxo : zAp (zW cy G S) wo)
    (kk : ∀ (S' : zS) (H1 : Heap) (locs1 : List Loc), post S' → va_P (dC, dI) vwCl (zW cy G S') H1 → va_D A (zW cy G S') → va_P (dC, dI) vwCl wo H1 → zAp (zW cy G S') wo → va_S A H0 H1 locs1 → W p l e R s m args below meth c H1 locs1 (cells + mc) (slots + ms) Q (F0 m (pc + 3) ls (rest))) : W p l e R s m args below meth c H locs cells slots Q (F0 m pc ls st0) := by
  have hF := zfree hD hS hA
  refine va_callv hr hS (fun q _ h => hF q h) hF (fun u t H1 locs1 ht _ hw hB _ hk1 hS1 => ?_)
  obtain ⟨hP1, _, hD1⟩ := hB
  rw [ht] at hP1
  obtain ⟨ho1, ho2⟩ := zother (A := A) hPo hxo hk1 hD1
  exact kk u H1 locs1 hw hP1 (hD1.weaken (fun _ q _ h => hF q.1 h)) ho1 ho2 hS1
theorem zc2I {post : Int32 → zG × zS → Prop} {a0 : Array Value} (hr : va_Run p l e R s m args below meth c H locs cells slots mc ms (F0 m pc ls st0) rest (va_Qi post (fun u => zB dC dI cy (zA cy G S H.size) u.1 u.2) (zA cy G S H.size) a0) (zA cy G S H.size)) (hS : va_S A H0 H locs) (hD : va_D A (zW cy G S)) (hA : ∀ q, H0.size ≤ q → A q) (hPo : va_P (dC, dI) vwCl wo H) (hxo : zAp (zW cy G S) wo)
    (kk : ∀ (r : Int32) (u : zG × zS) (H1 : Heap) (locs1 : List Loc), post r u → va_P (dC, dI) vwCl (zW cy u.1 u.2) H1 → va_D A (zW cy u.1 u.2) → va_P (dC, dI) vwCl wo H1 → zAp (zW cy u.1 u.2) wo → va_S A H0 H1 locs1 → W p l e R s m args below meth c H1 locs1 (cells + mc) (slots + ms) Q (F0 m (pc + 3) ls (.int r :: rest))) : W p l e R s m args below meth c H locs cells slots Q (F0 m pc ls st0) := by
  have hF := zfree hD hS hA
  refine va_calli hr hS (fun q _ h => hF q h) hF (fun r u t H1 locs1 ht _ hw hB _ hk1 hS1 => ?_)
  obtain ⟨hP1, _, hD1⟩ := hB
  rw [ht] at hP1
  obtain ⟨ho1, ho2⟩ := zother (A := A) hPo hxo hk1 hD1
  exact kk r u H1 locs1 hw hP1 (hD1.weaken (fun _ q _ h => hF q.1 h)) ho1 ho2 hS1
theorem zc2V {post : zG × zS → Prop} {a0 : Array Value} (hr : va_Run p l e R s m args below meth c H locs cells slots mc ms (F0 m pc ls st0) rest (va_Qv post (fun u => zB dC dI cy (zA cy G S H.size) u.1 u.2) (zA cy G S H.size) a0) (zA cy G S H.size)) (hS : va_S A H0 H locs) (hD : va_D A (zW cy G S)) (hA : ∀ q, H0.size ≤ q → A q) (hPo : va_P (dC, dI) vwCl wo H) (hxo : zAp (zW cy G S) wo)
    (kk : ∀ (u : zG × zS) (H1 : Heap) (locs1 : List Loc), post u → va_P (dC, dI) vwCl (zW cy u.1 u.2) H1 → va_D A (zW cy u.1 u.2) → va_P (dC, dI) vwCl wo H1 → zAp (zW cy u.1 u.2) wo → va_S A H0 H1 locs1 → W p l e R s m args below meth c H1 locs1 (cells + mc) (slots + ms) Q (F0 m (pc + 3) ls (rest))) : W p l e R s m args below meth c H locs cells slots Q (F0 m pc ls st0) := by
  have hF := zfree hD hS hA
  refine va_callv hr hS (fun q _ h => hF q h) hF (fun u t H1 locs1 ht _ hw hB _ hk1 hS1 => ?_)
  obtain ⟨hP1, _, hD1⟩ := hB
  rw [ht] at hP1
  obtain ⟨ho1, ho2⟩ := zother (A := A) hPo hxo hk1 hD1
  exact kk u H1 locs1 hw hP1 (hD1.weaken (fun _ q _ h => hF q.1 h)) ho1 ho2 hS1
end Z2
/-- a call that leaves on the class's side all that the reference must agree with -/
abbrev zKp (G : zG) (S T : zS) (x f n sc ia na d ka va o : Nat) : Prop := zCI G T x f n sc ia na d ka va o ∧ zVw x f n sc S T
theorem k_listen {G : zG} {S S' : zS} {x f n sc ia na d ka va o : Nat} {v id b k9 : Int32} (h : zCI G S x f n sc ia na d ka va o) (hw : (k9 = 0 ∧ (∃ (r : Int32) (T9 : zS) (w : Int64), (∃ y ka' ta' j, zfo S f id (some y) ∧ zFr G S y ka' ta' ∧ j < 8 ∧ v = nI j ∧ kListen v (zfv S (some y)) = 0 ∧ ((r = 1 ∧ zheard (S.1 y 6) (nI j)) ∨ (r = 0 ∧ ¬ zheard (S.1 y 6) (nI j))) ∧ ((¬ b = 0 ∧ ((zheard (S.1 y 6) (nI j) ∧ T9 = S) ∨ (¬ zheard (S.1 y 6) (nI j) ∧ T9 = zpi (zpj (zpi S y 6 (S.1 y 6 ||| (1 <<< (nI j &&& 31)))) ka' j 0) ta' j 0))) ∨ (b = 0 ∧ T9 = zpi S y 6 (S.1 y 6 &&& ((1 <<< (nI j &&& 31)) ^^^ (-1)))))) ∧ S' = zpj T9 o 0 w ∧ ((¬ r = 0 ∧ w = 1) ∨ (r = 0 ∧ w = 0)))) ∨ (k9 = 1 ∧ (∃ q, zfo S f id q ∧ kListen v (zfv S q) = 1) ∧ S' = S)) : zKp G S S' x f n sc ia na d ka va o := by
  rcases hw with ⟨-, r, T, w, ⟨y, k1, t1, j, -, hf, -, -, -, -, hs⟩, rfl, -⟩ | ⟨-, -, rfl⟩
  · have key : zKp G S T x f n sc ia na d ka va o := by
      rcases hs with ⟨-, ⟨-, rfl⟩ | ⟨-, rfl⟩⟩ | ⟨-, rfl⟩
      · exact ⟨h, zVw.refl _ _ _ _ _⟩
      · have a := h.pi (a := y) (k := 6) (kd := 1) (S.1 y 6 ||| (1 <<< (nI j &&& 31))) hf.1 (by decide)
        have b1 := a.1.pj k1 j 0
        have c1 := b1.1.pi (a := t1) (k := j) (kd := 8) 0 hf.2.2.2.2.2.2.1 (by simp)
        exact ⟨c1.1, (a.2.trans b1.2).trans c1.2⟩
      · exact h.pi (a := y) (k := 6) (kd := 1) _ hf.1 (by decide)
    exact ⟨(key.1.pj _ _ _).1, key.2.trans (key.1.pj _ _ _).2⟩
  · exact ⟨h, zVw.refl _ _ _ _ _⟩
theorem k_status {G : zG} {S S' : zS} {x f n sc ia na d ka va o : Nat} {v id b k k9 : Int32} (h : zCI G S x f n sc ia na d ka va o) (hw : (k9 = 0 ∧ (∃ q, zfo S f id q ∧ kStatus v (zfv S q) b k = 0 ∧ zSt G S S')) ∨ (k9 = 1 ∧ (∃ q, zfo S f id q ∧ kStatus v (zfv S q) b k = 1) ∧ S' = S)) : zKp G S S' x f n sc ia na d ka va o := by
  rcases hw with ⟨-, q, -, -, hst⟩ | ⟨-, -, rfl⟩
  · exact h.st hst
  · exact ⟨h, zVw.refl _ _ _ _ _⟩
theorem k_write {G : zG} {S S' : zS} {x f n sc ia na d ka va o : Nat} {id b v k9 : Int32} (h : zCI G S x f n sc ia na d ka va o) (hw : (k9 = 0 ∧ (∃ (r : Int32) (T9 : zS) (w : Int64), (∃ y, zfo S f id (some y) ∧ zO G y 1 ∧ kWrite (zfv S (some y)) b v = 0 ∧ r = zbyte (S.2.1 y 5) b ∧ T9 = zpj S y 5 (S.2.1 y 5 ^^^ ((zbyte (S.2.1 y 5) b ^^^ v).toInt64 <<< ((8 * b).toInt64 &&& 63)))) ∧ S' = zpj T9 o 0 w ∧ w = r.toInt64)) ∨ (k9 = 1 ∧ (∃ q, zfo S f id q ∧ kWrite (zfv S q) b v = 1) ∧ S' = S)) : zKp G S S' x f n sc ia na d ka va o := by
  rcases hw with ⟨-, r, T, w, ⟨y, -, -, -, -, rfl⟩, rfl, -⟩ | ⟨-, -, rfl⟩
  · have a := h.pj y 5 (S.2.1 y 5 ^^^ ((zbyte (S.2.1 y 5) b ^^^ v).toInt64 <<< ((8 * b).toInt64 &&& 63)))
    exact ⟨(a.1.pj _ _ _).1, a.2.trans (a.1.pj _ _ _).2⟩
  · exact ⟨h, zVw.refl _ _ _ _ _⟩
theorem k_disturb {G : zG} {S S' : zS} {x f n sc ia na d ka va o : Nat} {b v k9 : Int32} (h : zCI G S x f n sc ia na d ka va o) (hw : (k9 = 0 ∧ (kDist b v (S.1 d 2) = 0 ∧ zSt G S S')) ∨ (k9 = 1 ∧ (kDist b v (S.1 d 2) = 1) ∧ S' = S) ∨ (k9 = 2 ∧ (kDist b v (S.1 d 2) = 2) ∧ S' = S)) : zKp G S S' x f n sc ia na d ka va o := by
  rcases hw with ⟨-, -, hst⟩ | ⟨-, -, rfl⟩ | ⟨-, -, rfl⟩
  · exact h.st hst
  · exact ⟨h, zVw.refl _ _ _ _ _⟩
  · exact ⟨h, zVw.refl _ _ _ _ _⟩
theorem k_wake {G : zG} {S S' : zS} {x f n sc ia na d ka va o : Nat} {v k9 : Int32} (h : zCI G S x f n sc ia na d ka va o) (hw : (k9 = 0 ∧ (kWake v = 0 ∧ zSt G S S')) ∨ (k9 = 1 ∧ (kWake v = 1) ∧ S' = S)) : zKp G S S' x f n sc ia na d ka va o := by
  rcases hw with ⟨-, -, hst⟩ | ⟨-, -, rfl⟩
  · exact h.st hst
  · exact ⟨h, zVw.refl _ _ _ _ _⟩
theorem k_byteAt {G : zG} {S S' : zS} {x f n sc ia na d ka va o : Nat} {v id b k9 : Int32} (h : zCI G S x f n sc ia na d ka va o) (hw : (k9 = 0 ∧ (∃ (r : Int32) (T9 : zS) (w : Int64), (T9 = S ∧ ∃ y, zfo S f id (some y)) ∧ S' = zpj T9 o 0 w ∧ w = r.toInt64)) ∨ (k9 = 1 ∧ (True) ∧ S' = S)) : zKp G S S' x f n sc ia na d ka va o := by
  rcases hw with ⟨-, r, T, w, ⟨rfl, -⟩, rfl, -⟩ | ⟨-, -, rfl⟩
  · exact h.pj _ _ _
  · exact ⟨h, zVw.refl _ _ _ _ _⟩
theorem k_taken {G : zG} {S S' : zS} {x f n sc ia na d ka va o : Nat} {v id k9 : Int32} (h : zCI G S x f n sc ia na d ka va o) (hw : (k9 = 0 ∧ (∃ (r : Int32) (T9 : zS) (w : Int64), (T9 = S ∧ ∃ y, zfo S f id (some y)) ∧ S' = zpj T9 o 0 w ∧ w = r.toInt64)) ∨ (k9 = 1 ∧ (True) ∧ S' = S)) : zKp G S S' x f n sc ia na d ka va o := by
  rcases hw with ⟨-, r, T, w, ⟨rfl, -⟩, rfl, -⟩ | ⟨-, -, rfl⟩
  · exact h.pj _ _ _
  · exact ⟨h, zVw.refl _ _ _ _ _⟩
theorem k_told {G : zG} {S S' : zS} {x f n sc ia na d ka va o : Nat} {v k k9 : Int32} (h : zCI G S x f n sc ia na d ka va o) (hw : (k9 = 0 ∧ (∃ (r : Int32) (T9 : zS) (w : Int64), (kTold v k = 0 ∧ T9 = S ∧ ∃ j nd i q, j < 8 ∧ v = nI j ∧ S.2.2 n j = some nd ∧ zNd G S nd i q ∧ r = ztell S nd k) ∧ S' = zpj T9 o 0 w ∧ w = r.toInt64)) ∨ (k9 = 1 ∧ (kTold v k = 1) ∧ S' = S)) : zKp G S S' x f n sc ia na d ka va o := by
  rcases hw with ⟨-, r, T, w, ⟨-, rfl, -⟩, rfl, -⟩ | ⟨-, -, rfl⟩
  · exact h.pj _ _ _
  · exact ⟨h, zVw.refl _ _ _ _ _⟩
theorem k_count {G : zG} {S S' : zS} {x f n sc ia na d ka va o : Nat} {k k9 : Int32} (h : zCI G S x f n sc ia na d ka va o) (hw : (k9 = 0 ∧ (∃ (r : Int32) (T9 : zS) (w : Int64), (kCount k = 0 ∧ T9 = S ∧ r = zcount S x sc d k) ∧ S' = zpj T9 o 0 w ∧ w = r.toInt64)) ∨ (k9 = 1 ∧ (kCount k = 1) ∧ S' = S)) : zKp G S S' x f n sc ia na d ka va o := by
  rcases hw with ⟨-, r, T, w, ⟨-, rfl, -⟩, rfl, -⟩ | ⟨-, -, rfl⟩
  · exact h.pj _ _ _
  · exact ⟨h, zVw.refl _ _ _ _ _⟩
theorem k_line {G : zG} {S S' : zS} {x f n sc ia na d ka va o : Nat} {b k9 : Int32} (h : zCI G S x f n sc ia na d ka va o) (hw : (k9 = 0 ∧ (∃ (r : Int32) (T9 : zS) (w : Int64), (kLine b = 0 ∧ T9 = S ∧ r = ((S.2.1 x 6).toUInt64 >>> ((b - 1).toInt64.toUInt64 &&& Int64.toUInt64 63)).toInt64.toInt32 &&& 1) ∧ S' = zpj T9 o 0 w ∧ w = r.toInt64)) ∨ (k9 = 1 ∧ (kLine b = 1) ∧ S' = S)) : zKp G S S' x f n sc ia na d ka va o := by
  rcases hw with ⟨-, r, T, w, ⟨-, rfl, -⟩, rfl, -⟩ | ⟨-, -, rfl⟩
  · exact h.pj _ _ _
  · exact ⟨h, zVw.refl _ _ _ _ _⟩
theorem k_checks {G : zG} {S S' : zS} {x f n sc ia na d ka va o : Nat} {id k9 : Int32} (h : zCI G S x f n sc ia na d ka va o) (hw : (k9 = 0 ∧ (∃ (r : Int32) (T9 : zS) (w : Int64), (T9 = S ∧ ∃ y n' : Nat, zfo S f id (some y) ∧ n' ≤ 8 ∧ S.1 y 1 = nI n' ∧ r = S.1 y 3 + 256 * (255 - zsum (zbl (S.2.1 y 5)) (if S.1 y 4 = 0 then 0 else S.1 y 3) n')) ∧ S' = zpj T9 o 0 w ∧ w = r.toInt64)) ∨ (k9 = 1 ∧ (zfo S f id none) ∧ S' = S)) : zKp G S S' x f n sc ia na d ka va o := by
  rcases hw with ⟨-, r, T, w, ⟨rfl, -⟩, rfl, -⟩ | ⟨-, -, rfl⟩
  · exact h.pj _ _ _
  · exact ⟨h, zVw.refl _ _ _ _ _⟩
theorem m_listen {G : zG} {S T : zS} {mo : Nat} {ad : Nat → Nat} (h : zMI G S mo ad) (hm : (zC mo ad [6, 7, 8] [0] S T ∧ zI mo ad T) ∧ zZr (T.1 (ad 6))) : zMI G T mo ad ∧ zVm mo ad S T := by
  obtain ⟨⟨c, hI⟩, hz⟩ := hm
  refine ⟨⟨h.1.eq c.1, hI, hz, fun z => ?_⟩, c.2.2 33 (by decide), c.2.2 9 (by decide), c.2.1 1 (by decide) (by decide), c.2.1 2 (by decide) (by decide), c.2.1 3 (by decide) (by decide), c.2.1 12 (by decide) (by decide)⟩
  rw [c.2.1 16 (by decide) (by decide)]
  exact h.2.2.2 (by rw [← c.2.2 33 (by decide)]; exact z)
theorem m_status {G : zG} {S T : zS} {mo : Nat} {ad : Nat → Nat} {X : Prop} (h : zMI G S mo ad) (hm : (zC mo ad [13, 14, 15] [0] S T ∧ zI mo ad T) ∧ X) : zMI G T mo ad ∧ zVm mo ad S T := h.c hm.1.1 hm.1.2 (by decide) (by decide)
theorem m_write {G : zG} {S T : zS} {mo : Nat} {ad : Nat → Nat} {X : Prop} (h : zMI G S mo ad) (hm : (zC mo ad [5] [0] S T ∧ zI mo ad T) ∧ X) : zMI G T mo ad ∧ zVm mo ad S T := h.c hm.1.1 hm.1.2 (by decide) (by decide)
theorem m_disturb {G : zG} {S T : zS} {mo : Nat} {ad : Nat → Nat} {X : Prop} (h : zMI G S mo ad) (hm : (zC mo ad [39, 40] [0, 41] S T ∧ zI mo ad T) ∧ X) : zMI G T mo ad ∧ zVm mo ad S T := h.c hm.1.1 hm.1.2 (by decide) (by decide)
theorem m_wake {G : zG} {S T : zS} {mo : Nat} {ad : Nat → Nat} {X : Prop} (h : zMI G S mo ad) (hm : (zC mo ad [24] [0] S T ∧ zI mo ad T) ∧ X) : zMI G T mo ad ∧ zVm mo ad S T := h.c hm.1.1 hm.1.2 (by decide) (by decide)
theorem m_byteAt {G : zG} {S T : zS} {mo : Nat} {ad : Nat → Nat} {X : Prop} (h : zMI G S mo ad) (hm : (zC mo ad [] [0] S T ∧ zI mo ad T) ∧ X) : zMI G T mo ad ∧ zVm mo ad S T := h.c hm.1.1 hm.1.2 (by decide) (by decide)
theorem m_taken {G : zG} {S T : zS} {mo : Nat} {ad : Nat → Nat} {X : Prop} (h : zMI G S mo ad) (hm : (zC mo ad [] [0] S T ∧ zI mo ad T) ∧ X) : zMI G T mo ad ∧ zVm mo ad S T := h.c hm.1.1 hm.1.2 (by decide) (by decide)
theorem m_told {G : zG} {S T : zS} {mo : Nat} {ad : Nat → Nat} {X : Prop} (h : zMI G S mo ad) (hm : (zC mo ad [] [0] S T ∧ zI mo ad T) ∧ X) : zMI G T mo ad ∧ zVm mo ad S T := h.c hm.1.1 hm.1.2 (by decide) (by decide)
theorem m_count {G : zG} {S T : zS} {mo : Nat} {ad : Nat → Nat} {X : Prop} (h : zMI G S mo ad) (hm : (zC mo ad [] [0] S T ∧ zI mo ad T) ∧ X) : zMI G T mo ad ∧ zVm mo ad S T := h.c hm.1.1 hm.1.2 (by decide) (by decide)
theorem m_line {G : zG} {S T : zS} {mo : Nat} {ad : Nat → Nat} {X : Prop} (h : zMI G S mo ad) (hm : (zC mo ad [] [0] S T ∧ zI mo ad T) ∧ X) : zMI G T mo ad ∧ zVm mo ad S T := h.c hm.1.1 hm.1.2 (by decide) (by decide)
theorem m_checks {G : zG} {S T : zS} {mo : Nat} {ad : Nat → Nat} {X : Prop} (h : zMI G S mo ad) (hm : (zC mo ad [] [0] S T ∧ zI mo ad T) ∧ X) : zMI G T mo ad ∧ zVm mo ad S T := h.c hm.1.1 hm.1.2 (by decide) (by decide)
theorem s_run {G1 G2 : zG} {S1 T1 S2 T2 : zS} {x f n sc ia na d ka va o mo : Nat} {ad : Nat → Nat} {v k9 r2 : Int32} (h : zCI G1 S1 x f n sc ia na d ka va o) (hM : zMI G2 S2 mo ad) (hR : zRl x f n sc mo ad S1 S2) (hw : (k9 = 0 ∧ (∃ (r : Int32) (T9 : zS) (w : Int64), (kRun (S1.1 x 4) v = 0 ∧ zSu G1 x S1 T9 ∧ zX G1 T9 x f n sc ia na d ka va ∧ T9.1 x 4 = S1.1 x 4 + v ∧ r = T9.1 x 4) ∧ T1 = zpj T9 o 0 w ∧ w = r.toInt64)) ∨ (k9 = 1 ∧ (kRun (S1.1 x 4) v = 1) ∧ T1 = S1) ∨ (k9 = 2 ∧ (kRun (S1.1 x 4) v = 2) ∧ T1 = S1)) (hm : (zC mo ad [7, 8, 16, 17, 18, 19, 20, 21, 22, 23, 24, 25, 26, 27, 28, 29, 30, 31, 32, 38, 39, 40] [0, 33, 34, 35, 36, 37, 41] S2 T2 ∧ zI mo ad T2) ∧ T2.1 mo 0 = kRun (S2.1 mo 33) v ∧ (T2.1 mo 0 = 0 → r2 = S2.1 mo 33 + v ∧ T2.1 mo 33 = S2.1 mo 33 + v ∧ ¬ T2.1 mo 33 ≤ 0) ∧ (¬ T2.1 mo 0 = 0 → T2.1 mo 33 = S2.1 mo 33 ∧ T2.1 (ad 16) = S2.1 (ad 16))) :
    zCI G1 T1 x f n sc ia na d ka va o ∧ zMI G2 T2 mo ad ∧ zRl x f n sc mo ad T1 T2 ∧ T2.1 mo 0 = k9 ∧ (k9 = 0 → T1.2.1 o 0 = r2.toInt64) := by
  obtain ⟨⟨c, hI⟩, m1, m2, m3⟩ := hm
  have hz : zZr (T2.1 (ad 6)) := by rw [c.2.1 6 (by decide) (by decide)]; exact hM.2.2.1
  have bad : k9 ≠ 0 → T2.1 mo 0 = k9 → T1 = S1 → zCI G1 T1 x f n sc ia na d ka va o ∧ zMI G2 T2 mo ad ∧ zRl x f n sc mo ad T1 T2 ∧ T2.1 mo 0 = k9 ∧ (k9 = 0 → T1.2.1 o 0 = r2.toInt64) := by
    intro hk e e1
    subst e1
    obtain ⟨t1, t2⟩ := m3 (by rw [e]; exact hk)
    refine ⟨h, ⟨hM.1.eq c.1, hI, hz, fun z => by rw [t2]; exact hM.2.2.2 (by rw [← t1]; exact z)⟩, hR.vw (zVw.refl _ _ _ _ _) ⟨t1, c.2.2 9 (by decide), c.2.1 1 (by decide) (by decide), c.2.1 2 (by decide) (by decide), c.2.1 3 (by decide) (by decide), c.2.1 12 (by decide) (by decide)⟩, e, fun z => absurd z hk⟩
  rcases hw with ⟨rfl, r, T, w, ⟨k0, hu, hX, ht, hr⟩, rfl, hwr⟩ | ⟨rfl, k1, rfl⟩ | ⟨rfl, k1, rfl⟩
  · have e0 : T2.1 mo 0 = 0 := by rw [m1, ← hR.1]; exact k0
    obtain ⟨q1, q2, q3⟩ := m2 e0
    obtain ⟨h0, h1, h2, h3, h4, h5, h6, h7, h8, h9⟩ := id h.1
    have en : ∀ j, T.2.2 n j = S1.2.2 n j := fun j => hu.2.2 n j (by rw [h6.1.2]; rfl)
    have ef : ∀ j, T.2.2 f j = S1.2.2 f j := fun j => hu.2.2 f j (by rw [h5.1.2]; rfl)
    refine ⟨⟨hX, h.2.1, fun i j a b e => h.2.2 i j a b (by rw [← en i, ← en j]; exact e)⟩, ⟨hM.1.eq c.1, hI, hz, fun z => absurd z q3⟩, ⟨?_, ?_, fun j hj => ?_, fun j a hj ha => ?_⟩, e0, fun _ => ?_⟩
    · show T.1 x 4 = T2.1 mo 33
      rw [ht, q2, hR.1]
    · show T.1 sc 2 = T2.1 mo 9
      rw [hu.1 sc 2 (fun c => by have := h7.1.2; rw [c.1, h0.2] at this; cases this) (by rw [h7.1.2]; rfl), c.2.2 9 (by decide)]; exact hR.2.1
    · show zfv T (T.2.2 f j) = _
      rw [ef j, c.2.1 1 (by decide) (by decide), c.2.1 2 (by decide) (by decide), c.2.1 3 (by decide) (by decide), ← hR.2.2.1 j hj]
      refine zfv_eq (fun y hy => ?_)
      obtain ⟨k, t, hf⟩ := h5.2.2 j y hj hy
      have ny : ∀ q, ¬ (y = x ∧ q = 4) := fun q c => by have := hf.1.2; rw [c.1, h0.2] at this; cases this
      exact ⟨hu.1 y 1 (ny 1) (by rw [hf.1.2]; rfl), hu.1 y 2 (ny 2) (by rw [hf.1.2]; rfl)⟩
    · have ha' : S1.2.2 n j = some a := by rw [← en j]; exact ha
      show T.1 a 3 = _
      obtain ⟨a', i', r', e1, e2⟩ := h6.2.2 j hj
      cases Option.some.inj (e1.symm.trans ha')
      rw [hu.1 a 3 (fun c => by have := e2.1.2; rw [c.1, h0.2] at this; cases this) (by rw [e2.1.2]; rfl), c.2.1 12 (by decide) (by decide)]
      exact hR.2.2.2 j a hj ha'
    · rw [zpj_at, if_pos ⟨rfl, rfl⟩, hwr, hr, ht, q1, hR.1]
  · exact bad (by decide) (by rw [m1, ← hR.1]; exact k1) rfl
  · exact bad (by decide) (by rw [m1, ← hR.1]; exact k1) rfl
