/-- frames and what they hold on the class's side are as they were -/
def zVy (f : Nat) (S T : zS) : Prop := ∀ j, j < 62 → T.2.2 f j = S.2.2 f j ∧ ∀ y, S.2.2 f j = some y → (∀ k, k < 7 → T.1 y k = S.1 y k) ∧ T.2.1 y 5 = S.2.1 y 5
theorem zVy.refl (f : Nat) (S : zS) : zVy f S S := fun _ _ => ⟨rfl, fun _ _ => ⟨fun _ _ => rfl, rfl⟩⟩
/-- a frame's own things beside the reference's -/
def zRy (f : Nat) (ad : Nat → Nat) (S1 S2 : zS) : Prop := ∀ j y, j < 62 → S1.2.2 f j = some y → S1.1 y 0 = nI j ∧ (∀ i, i < 8 → zbyte (S1.2.1 y 5) (nI i) = S2.1 (ad 5) (8 * j + i)) ∧ (∀ k, k < 8 → (zheard (S1.1 y 6) (nI k) ↔ ¬ S2.1 (ad 6) (62 * k + j) = 0)) ∧ S1.1 y 3 = zpid (nI j) ∧ S1.1 y 4 = zenh (S2.1 (ad 4) j) j
theorem zRy.vy {f : Nat} {ad : Nat → Nat} {S1 S2 T1 T2 : zS} (h : zRy f ad S1 S2) (v : zVy f S1 T1) (e4 : T2.1 (ad 4) = S2.1 (ad 4)) (e5 : T2.1 (ad 5) = S2.1 (ad 5)) (e6 : T2.1 (ad 6) = S2.1 (ad 6)) : zRy f ad T1 T2 := by
  intro j y hj hy
  obtain ⟨v1, v2⟩ := v j hj
  rw [v1] at hy
  obtain ⟨a, b⟩ := v2 y hy
  rw [a 0 (by decide), a 3 (by decide), a 4 (by decide), a 6 (by decide), b, e4, e5, e6]
  exact h j y hj hy
theorem zSt.vy {G : zG} {S T : zS} {x f n sc ia na d ka va : Nat} (hX : zX G S x f n sc ia na d ka va) (c : zSt G S T) : zVy f S T := by
  obtain ⟨h0, h1, h2, h3, h4, h5, -⟩ := hX
  refine fun j hj => ⟨c.2.2.1 f j (by rw [h5.1.2]; rfl), fun y hy => ?_⟩
  obtain ⟨k, t, hf⟩ := h5.2.2 j y hj hy
  exact ⟨fun k _ => c.1 y k (by rw [hf.1.2]; rfl), c.2.1 y 5 (by rw [hf.1.2]; rfl)⟩
theorem zSu.vy {G : zG} {S T : zS} {x f n sc ia na d ka va : Nat} (hX : zX G S x f n sc ia na d ka va) (c : zSu G x S T) : zVy f S T := by
  obtain ⟨h0, h1, h2, h3, h4, h5, -⟩ := hX
  refine fun j hj => ⟨c.2.2 f j (by rw [h5.1.2]; rfl), fun y hy => ?_⟩
  obtain ⟨k, t, hf⟩ := h5.2.2 j y hj hy
  exact ⟨fun k _ => c.1 y k (fun z => by have := hf.1.2; rw [z.1, h0.2] at this; cases this) (by rw [hf.1.2]; rfl), c.2.1 y 5 (by rw [hf.1.2]; rfl)⟩
theorem zCI.fk {G : zG} {S : zS} {x f n sc ia na d ka va o : Nat} (h : zCI G S x f n sc ia na d ka va o) {j y : Nat} (hj : j < 62) (hy : S.2.2 f j = some y) : zO G y 1 := by
  obtain ⟨k, t, hf⟩ := h.1.2.2.2.2.2.1.2.2 j y hj hy
  exact hf.1
theorem zOne {G : zG} {a b ka kb : Nat} (ha : zO G a ka) (hb : zO G b kb) (hk : ka ≠ kb) : a ≠ b := fun c => hk (by have := ha.2; rw [c, hb.2] at this; exact this.symm)
theorem zVy.pj {G : zG} {S U : zS} {x f n sc ia na d ka va o : Nat} (v : zVy f S U) (h : zCI G S x f n sc ia na d ka va o) (w : Int64) : zVy f S (zpj U o 0 w) := fun j hj => ⟨(v j hj).1, fun y hy => ⟨((v j hj).2 y hy).1, by rw [zpj_at, if_neg (fun c => zOne (h.fk hj hy) h.2.1.1 (by decide) c.1)]; exact ((v j hj).2 y hy).2⟩⟩
theorem zVy.pi {G : zG} {S U : zS} {x f n sc ia na d ka va o : Nat} (v : zVy f S U) (h : zCI G S x f n sc ia na d ka va o) {a k kd : Nat} (ha : zO G a kd) (hk : 1 ≠ kd) (w : Int32) : zVy f S (zpi U a k w) := fun j hj => ⟨(v j hj).1, fun y hy => ⟨fun q hq => by rw [zpi_at, if_neg (fun c => zOne (h.fk hj hy) ha hk c.1)]; exact ((v j hj).2 y hy).1 q hq, ((v j hj).2 y hy).2⟩⟩
theorem zenh_nar {e1 : Int32} (h : e1 = 0 ∨ e1 = 1) {j : Nat} : zenh e1 j = zenh (vp_nar .boolean e1) j := by
  rcases h with h | h <;> rw [h] <;> rfl
theorem zFi_offj (S : zS) {q k t b : Nat} (i1 i2 i3 i4 : Int32) (ha : b ≠ q) (hi : b ≠ k) (hr : b ≠ t) (j : Nat) : (zFi (zSn S q) q k t i1 i2 i3 i4).2.1 b j = S.2.1 b j := by
  unfold zFi
  simp only [zpi_at, zpj_at, zpq_at, zpi_2, zpj_1, zpj_22, zpq_1, zpq_21, zSn_1, zSn_21, zSn_22, ha, hi, hr, false_and, if_false]
theorem zFi_off1 (S : zS) {q k t b : Nat} (i1 i2 i3 i4 : Int32) (ha : b ≠ q) (hi : b ≠ k) (hr : b ≠ t) (j : Nat) : (zFi (zSn S q) q k t i1 i2 i3 i4).1 b j = S.1 b j ∧ (zFi (zSn S q) q k t i1 i2 i3 i4).2.2 b j = S.2.2 b j := by
  unfold zFi
  simp only [zpi_at, zpj_at, zpq_at, zpi_2, zpj_1, zpj_22, zpq_1, zpq_21, zSn_1, zSn_21, zSn_22, ha, hi, hr, false_and, if_false, and_self]
theorem zFi_atj (S : zS) {q k t : Nat} (i1 i2 i3 i4 : Int32) (hi : q ≠ k) (hr : q ≠ t) : (zFi (zSn S q) q k t i1 i2 i3 i4).1 q 0 = i1 ∧ (zFi (zSn S q) q k t i1 i2 i3 i4).1 q 3 = zpid i1 ∧ (zFi (zSn S q) q k t i1 i2 i3 i4).1 q 4 = i4 ∧ (zFi (zSn S q) q k t i1 i2 i3 i4).1 q 6 = 0 ∧ (zFi (zSn S q) q k t i1 i2 i3 i4).2.1 q 5 = 0 := by
  unfold zFi
  simp [zpi_at, zpj_at, zpq_at, zpi_2, zpj_1, zpj_22, zpq_1, zpq_21, zSn_1, zSn_21, zSn_22, hi, hr, hi.symm, hr.symm]
theorem zRy.frame {G : zG} {S S2 T T2 : zS} {x f n sc ia na d ka va o : Nat} {ad : Nat → Nat} (h : zCI G S x f n sc ia na d ka va o) (hY : zRy f ad S S2) {q k t j : Nat} {i2 i3 i4 e4 : Int32} (hq : q ∉ G.1) (hk : k ∉ (zGn G q 1 0).1) (ht : t ∉ (zGn (zGn G q 1 0) k 9 8).1) (hT : T = zpq (zFi (zSn S q) q k t (nI j) i2 i3 i4) f j (some q)) (hj : j < 62) (he : i4 = zenh e4 j) (q4 : T2.1 (ad 4) = upd (S2.1 (ad 4)) j e4) (q5 : zB5 (S2.1 (ad 5)) (T2.1 (ad 5)) j 8) (q6 : zL6 (S2.1 (ad 6)) (T2.1 (ad 6)) j 8) : zRy f ad T T2 := by
  subst hT
  have h5 := h.1.2.2.2.2.2.1
  have qk : q ≠ k := fun c => hk (by rw [← c]; exact (zO.nw G q 1 0).1)
  have qt : q ≠ t := fun c => ht (by rw [← c]; exact ((zO.nw G q 1 0).gn hk).1)
  have aq : ∀ {a kd}, zO G a kd → a ≠ q := fun h => h.ne hq
  have ak : ∀ {a kd}, zO G a kd → a ≠ k := fun h => (h.gn (kd' := 1) (n := 0) hq).ne hk
  have at' : ∀ {a kd}, zO G a kd → a ≠ t := fun h => ((h.gn (kd' := 1) (n := 0) hq).gn (kd' := 9) (n := 8) hk).ne ht
  intro i y hi hy
  rw [zpq_at] at hy
  show (zFi (zSn S q) q k t (nI j) i2 i3 i4).1 y 0 = nI i ∧ (∀ i', i' < 8 → zbyte ((zFi (zSn S q) q k t (nI j) i2 i3 i4).2.1 y 5) (nI i') = T2.1 (ad 5) (8 * i + i')) ∧ (∀ k', k' < 8 → (zheard ((zFi (zSn S q) q k t (nI j) i2 i3 i4).1 y 6) (nI k') ↔ ¬ T2.1 (ad 6) (62 * k' + i) = 0)) ∧ (zFi (zSn S q) q k t (nI j) i2 i3 i4).1 y 3 = zpid (nI i) ∧ (zFi (zSn S q) q k t (nI j) i2 i3 i4).1 y 4 = zenh (T2.1 (ad 4) i) i
  by_cases c : i = j
  · subst c
    rw [if_pos ⟨rfl, rfl⟩] at hy
    cases Option.some.inj hy
    obtain ⟨p0, p3, p4, p6, p5⟩ := zFi_atj S (q := q) (k := k) (t := t) (nI i) i2 i3 i4 qk qt
    rw [p0, p3, p4, p6, p5, q4, zupd_s]
    exact ⟨rfl, fun i' hi' => (zb_0 hi').trans (q5.1 i' hi').symm, fun k' hk' => ⟨fun z => absurd z (zh_0 hk'), fun z => absurd (q6.1 k' hk') z⟩, rfl, he⟩
  · rw [if_neg (fun z => c z.2)] at hy
    have hf0 := (zFi_off1 S (nI j) i2 i3 i4 (aq h5.1) (ak h5.1) (at' h5.1) i).2
    rw [hf0] at hy
    have ho := h.fk hi hy
    have e1 : ∀ k', (zFi (zSn S q) q k t (nI j) i2 i3 i4).1 y k' = S.1 y k' := fun k' => (zFi_off1 S (nI j) i2 i3 i4 (aq ho) (ak ho) (at' ho) k').1
    rw [e1 0, e1 3, e1 4, e1 6, zFi_offj S (nI j) i2 i3 i4 (aq ho) (ak ho) (at' ho) 5, q4, zupd_n _ c]
    obtain ⟨g0, g1, g2, g3, g4⟩ := hY i y hi hy
    refine ⟨g0, fun i' hi' => ?_, fun k' hk' => ?_, g3, g4⟩
    · rw [q5.2 _ (by omega)]; exact g1 i' hi'
    · rw [q6.2 _ (fun n9 => by omega)]; exact g2 k' hk'
