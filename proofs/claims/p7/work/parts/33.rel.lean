def zAp (w1 w2 : va_W) : Prop := ∀ (i j : Nat) (p q : Nat × va_E), w1[i]? = some p → w2[j]? = some q → p.1 ≠ q.1
theorem zAp.symm {w1 w2 : va_W} (h : zAp w1 w2) : zAp w2 w1 := fun i j p q hi hj c => h j i q p hj hi c.symm
/-- what of the class's state the reference must agree with -/
def zVw (x f n sc : Nat) (S T : zS) : Prop := T.1 x 4 = S.1 x 4 ∧ T.1 sc 2 = S.1 sc 2 ∧ (∀ j, j < 62 → zfv T (T.2.2 f j) = zfv S (S.2.2 f j)) ∧ ∀ j, j < 8 → T.2.2 n j = S.2.2 n j ∧ ∀ a, S.2.2 n j = some a → T.1 a 3 = S.1 a 3
theorem zVw.refl (x f n sc : Nat) (S : zS) : zVw x f n sc S S := ⟨rfl, rfl, fun _ _ => rfl, fun _ _ => ⟨rfl, fun _ _ => rfl⟩⟩
theorem zVw.trans {x f n sc : Nat} {S T U : zS} (h : zVw x f n sc S T) (g : zVw x f n sc T U) : zVw x f n sc S U := ⟨g.1.trans h.1, g.2.1.trans h.2.1, fun j hj => (g.2.2.1 j hj).trans (h.2.2.1 j hj), fun j hj => ⟨(g.2.2.2 j hj).1.trans (h.2.2.2 j hj).1, fun a ha => ((g.2.2.2 j hj).2 a ((h.2.2.2 j hj).1.trans ha)).trans ((h.2.2.2 j hj).2 a ha)⟩⟩
/-- the class's things as they must stand -/
def zCI (G : zG) (S : zS) (x f n sc ia na d ka va o : Nat) : Prop := zX G S x f n sc ia na d ka va ∧ (zO G o 9 ∧ G.2.2 o = 1) ∧ ∀ i j, i < 8 → j < 8 → S.2.2 n i = S.2.2 n j → i = j
theorem zfv_eq {S T : zS} {r : Option Nat} (h : ∀ y, r = some y → T.1 y 1 = S.1 y 1 ∧ T.1 y 2 = S.1 y 2) : zfv T r = zfv S r := by
  cases r with
  | none => rfl
  | some y => obtain ⟨h1, h2⟩ := h y rfl; unfold zfv; simp only [Option.map_some, h1, h2]
theorem zCI.st {G : zG} {S T : zS} {x f n sc ia na d ka va o : Nat} (h : zCI G S x f n sc ia na d ka va o) (c : zSt G S T) : zCI G T x f n sc ia na d ka va o ∧ zVw x f n sc S T := by
  obtain ⟨hX, ho, hi⟩ := h
  obtain ⟨h0, h1, h2, h3, h4, h5, h6, h7, h8, h9⟩ := id hX
  have ef : ∀ j, T.2.2 f j = S.2.2 f j := fun j => c.2.2.1 f j (by rw [h5.1.2]; rfl)
  have en : ∀ j, T.2.2 n j = S.2.2 n j := fun j => c.2.2.1 n j (by rw [h6.1.2]; rfl)
  refine ⟨⟨c.zx hX, ho, fun i j a b e => hi i j a b (by rw [← en i, ← en j]; exact e)⟩, c.1 x 4 (by rw [h0.2]; rfl), c.1 sc 2 (by rw [h7.1.2]; rfl), fun j hj => ?_, fun j hj => ⟨en j, fun a ha => ?_⟩⟩
  · rw [ef j]
    refine zfv_eq (fun y hy => ?_)
    obtain ⟨k, t, hf⟩ := h5.2.2 j y hj hy
    exact ⟨c.1 y 1 (by rw [hf.1.2]; rfl), c.1 y 2 (by rw [hf.1.2]; rfl)⟩
  · obtain ⟨a', i', r', e1, e2⟩ := h6.2.2 j hj
    cases Option.some.inj (e1.symm.trans ha)
    exact c.1 a 3 (by rw [e2.1.2]; rfl)
/-- longs alone -/
theorem zCI.pj {G : zG} {S : zS} {x f n sc ia na d ka va o : Nat} (h : zCI G S x f n sc ia na d ka va o) (a k : Nat) (v : Int64) : zCI G (zpj S a k v) x f n sc ia na d ka va o ∧ zVw x f n sc S (zpj S a k v) := ⟨⟨h.1, h.2.1, h.2.2⟩, rfl, rfl, fun _ _ => rfl, fun _ _ => ⟨rfl, fun _ _ => rfl⟩⟩
/-- an int of a thing that is no frame's length or publisher, no node's space, not the time, not the number of slots -/
theorem zCI.pi {G : zG} {S : zS} {x f n sc ia na d ka va o : Nat} (h : zCI G S x f n sc ia na d ka va o) {a k kd : Nat} (v : Int32) (ha : zO G a kd) (hk : ¬ (kd = 1 ∧ (k = 1 ∨ k = 2)) ∧ ¬ (kd = 3 ∧ k = 3) ∧ ¬ (kd = 6 ∧ k = 4) ∧ ¬ (kd = 5 ∧ k = 2)) : zCI G (zpi S a k v) x f n sc ia na d ka va o ∧ zVw x f n sc S (zpi S a k v) := by
  obtain ⟨hX, ho, hi⟩ := h
  obtain ⟨h0, h1, h2, h3, h4, h5, h6, h7, h8, h9⟩ := id hX
  have ne : ∀ {b kd' j : Nat}, zO G b kd' → ¬ (kd' = kd ∧ j = k) → (zpi S a k v).1 b j = S.1 b j := fun {b} {kd'} {j} hb hn => by
    rw [zpi_at, if_neg (fun c => hn ⟨?_, c.2⟩)]
    have := hb.2; rw [c.1, ha.2] at this; exact this.symm
  have fe : ∀ y, zFe G S y → zFe G (zpi S a k v) y := by
    intro y ⟨k1, t1, h⟩
    refine ⟨k1, t1, h.1, h.2.1, h.2.2.1, ?_, h.2.2.2.2⟩
    obtain ⟨m, q1, q2⟩ := h.2.2.2.1
    exact ⟨m, q1, (ne h.1 (fun c => hk.1 ⟨c.1.symm, Or.inl c.2.symm⟩)).trans q2⟩
  refine ⟨⟨⟨h0, h1, h2, h3, h4, ⟨h5.1, h5.2.1, fun j y hj hy => fe y (h5.2.2 j y hj hy)⟩, h6, h7, h8, fun r y hr hy => fe y (h9 r y hr hy)⟩, ho, hi⟩, ne h0 (fun c => hk.2.2.1 ⟨c.1.symm, c.2.symm⟩), ne h7.1 (fun c => hk.2.2.2 ⟨c.1.symm, c.2.symm⟩), fun j hj => ?_, fun j hj => ⟨rfl, fun b hb => ?_⟩⟩
  · show zfv (zpi S a k v) (S.2.2 f j) = _
    refine zfv_eq (fun y hy => ?_)
    obtain ⟨k1, t1, hf⟩ := h5.2.2 j y hj hy
    exact ⟨ne hf.1 (fun c => hk.1 ⟨c.1.symm, Or.inl c.2.symm⟩), ne hf.1 (fun c => hk.1 ⟨c.1.symm, Or.inr c.2.symm⟩)⟩
  · obtain ⟨a', i', r', e1, e2⟩ := h6.2.2 j hj
    cases Option.some.inj (e1.symm.trans hb)
    exact ne e2.1 (fun c => hk.2.1 ⟨c.1.symm, c.2.symm⟩)
/-- the reference as it must stand -/
def zMI (G : zG) (S : zS) (mo : Nat) (ad : Nat → Nat) : Prop := zM G S mo ad ∧ zI mo ad S ∧ zZr (S.1 (ad 6)) ∧ (S.1 mo 33 ≤ 0 → ∀ n, n < 8 → S.1 (ad 16) n = 1)
def zVm (mo : Nat) (ad : Nat → Nat) (S T : zS) : Prop := T.1 mo 33 = S.1 mo 33 ∧ T.1 mo 9 = S.1 mo 9 ∧ T.1 (ad 1) = S.1 (ad 1) ∧ T.1 (ad 2) = S.1 (ad 2) ∧ T.1 (ad 3) = S.1 (ad 3) ∧ T.1 (ad 12) = S.1 (ad 12)
theorem zMI.c {G : zG} {S T : zS} {mo : Nat} {ad : Nat → Nat} (h : zMI G S mo ad) {ks fs : List Nat} (c : zC mo ad ks fs S T) (hI : zI mo ad T) (hk : ∀ k ∈ [1, 2, 3, 6, 12, 16], k ∉ ks) (hf : ∀ k ∈ [9, 33], k ∉ fs) : zMI G T mo ad ∧ zVm mo ad S T := by
  refine ⟨⟨h.1.eq c.1, hI, by rw [c.2.1 6 (by decide) (hk 6 (by decide))]; exact h.2.2.1, fun z => ?_⟩, c.2.2 33 (hf 33 (by decide)), c.2.2 9 (hf 9 (by decide)), c.2.1 1 (by decide) (hk 1 (by decide)), c.2.1 2 (by decide) (hk 2 (by decide)), c.2.1 3 (by decide) (hk 3 (by decide)), c.2.1 12 (by decide) (hk 12 (by decide))⟩
  rw [c.2.1 16 (by decide) (hk 16 (by decide))]
  exact h.2.2.2 (by rw [← c.2.2 33 (hf 33 (by decide))]; exact z)
/-- class and reference agree -/
def zRl (x f n sc mo : Nat) (ad : Nat → Nat) (S1 S2 : zS) : Prop := S1.1 x 4 = S2.1 mo 33 ∧ S1.1 sc 2 = S2.1 mo 9 ∧ (∀ j, j < 62 → zfv S1 (S1.2.2 f j) = if S2.1 (ad 1) j = 0 then none else some (S2.1 (ad 2) j, S2.1 (ad 3) j)) ∧ ∀ j a, j < 8 → S1.2.2 n j = some a → S1.1 a 3 = S2.1 (ad 12) j
theorem zRl.vw {x f n sc mo : Nat} {ad : Nat → Nat} {S1 S2 T1 T2 : zS} (h : zRl x f n sc mo ad S1 S2) (v : zVw x f n sc S1 T1) (w : zVm mo ad S2 T2) : zRl x f n sc mo ad T1 T2 := by
  obtain ⟨a, b, c, e⟩ := h
  obtain ⟨v1, v2, v3, v4⟩ := v
  obtain ⟨w1, w2, w3, w4, w5, w6⟩ := w
  refine ⟨by rw [v1, w1]; exact a, by rw [v2, w2]; exact b, fun j hj => by rw [v3 j hj, w3, w4, w5]; exact c j hj, fun j q hj hq => ?_⟩
  rw [(v4 j hj).1] at hq
  rw [(v4 j hj).2 q hq, w6]; exact e j q hj hq
/-- the frame of an ID: the same on both sides -/
theorem zRl.fr {x f n sc mo : Nat} {ad : Nat → Nat} {S1 S2 : zS} (h : zRl x f n sc mo ad S1 S2) {id : Int32} {r : Option Nat} {q : Option (Int32 × Int32)} (hr : zfo S1 f id r) (hq : zmo S2 ad id q) : zfv S1 r = q := by
  rcases hr with ⟨j, hj, e, hr⟩ | ⟨hb, hr⟩
  · rcases hq with ⟨j', hj', e', hq⟩ | ⟨hb', hq⟩
    · have : j = j' := (nI_eq (by omega) (by omega)).mp (e.symm.trans e')
      subst this
      rw [hr, h.2.2.1 j hj]
      rcases hq with ⟨h1, h2⟩ | ⟨h1, h2⟩
      · rw [if_pos h1, h2]
      · rw [if_neg h1, h2]
    · rw [e] at hb'
      exact absurd hb' (fun c => c.elim (nI_pos (by omega)) (nI_ge (a := j) (b := 62) hj (by omega)))
  · rcases hq with ⟨j', hj', e', hq⟩ | ⟨hb', hq⟩
    · rw [e'] at hb
      exact absurd hb (fun c => c.elim (nI_pos (by omega)) (nI_ge (a := j') (b := 62) hj' (by omega)))
    · rw [hr, hq]; rfl
