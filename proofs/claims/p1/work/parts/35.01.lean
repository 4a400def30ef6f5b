theorem f_told {G1 : zG} {S1 T1 S2 T2 : zS} {x f n sc d o mo : Nat} {ad : Nat → Nat} {v k k9 r2 : Int32} (hF : zF0 x f n sc d mo ad S1 S2) (hw : (k9 = 0 ∧ (∃ (r : Int32) (T9 : zS) (w : Int64), (kTold v k = 0 ∧ T9 = S1 ∧ ∃ j nd i q, j < 8 ∧ v = nI j ∧ S1.2.2 n j = some nd ∧ zNd G1 S1 nd i q ∧ r = ztell S1 nd k) ∧ T1 = zpj T9 o 0 w ∧ w = r.toInt64)) ∨ (k9 = 1 ∧ (kTold v k = 1) ∧ T1 = S1)) (hm : (zC mo ad [] [0] S2 T2 ∧ zI mo ad T2) ∧ T2.1 mo 0 = kTold v k ∧ (T2.1 mo 0 = 0 → ∃ j, j < 8 ∧ v = nI j ∧ r2 = zmtell S2 ad j k)) : T2.1 mo 0 = k9 ∧ (k9 = 0 → T1.2.1 o 0 = r2.toInt64) := by
  obtain ⟨-, m1, m2⟩ := hm
  obtain ⟨⟨-, -, -, -, hn⟩, -, -, h16, hz⟩ := hF
  rcases hw with ⟨rfl, r, T, w, ⟨k0, rfl, j, nd, i, q, hj, rfl, hnd, -, hr⟩, rfl, hwr⟩ | ⟨rfl, k1, rfl⟩
  · have e0 : T2.1 mo 0 = 0 := m1.trans k0
    refine ⟨e0, fun _ => ?_⟩
    obtain ⟨j', hj', ej, hr2⟩ := m2 e0
    have : j = j' := (nI_eq (by omega) (by omega)).mp ej
    subst this
    obtain ⟨g6, g10, g11, g12, g13, g14⟩ := hn j nd hj hnd
    obtain ⟨a17, a18, a19, a20, a21⟩ := hz j
    rw [zpj_at, if_pos ⟨rfl, rfl⟩, hwr, hr, hr2]
    unfold ztell zmtell
    rw [g6, g10, g11, g12, g13, g14, h16 j hj, a17, a18, a19, a20, a21]
  · exact ⟨m1.trans k1, fun z => absurd z (by decide)⟩
theorem f_count {S1 T1 S2 T2 : zS} {x f n sc d o mo : Nat} {ad : Nat → Nat} {k k9 r2 : Int32} (hF : zF0 x f n sc d mo ad S1 S2) (hw : (k9 = 0 ∧ (∃ (r : Int32) (T9 : zS) (w : Int64), (kCount k = 0 ∧ T9 = S1 ∧ r = zcount S1 x sc d k) ∧ T1 = zpj T9 o 0 w ∧ w = r.toInt64)) ∨ (k9 = 1 ∧ (kCount k = 1) ∧ T1 = S1)) (hm : (zC mo ad [] [0] S2 T2 ∧ zI mo ad T2) ∧ T2.1 mo 0 = kCount k ∧ (T2.1 mo 0 = 0 → r2 = zmcount S2 mo k)) : T2.1 mo 0 = k9 ∧ (k9 = 0 → T1.2.1 o 0 = r2.toInt64) := by
  obtain ⟨-, m1, m2⟩ := hm
  obtain ⟨⟨⟨h4, -⟩, -, ⟨h3, h5⟩, hd, -⟩, ⟨a33, a34, a36, a41⟩, -⟩ := hF
  rcases hw with ⟨rfl, r, T, w, ⟨k0, rfl, hr⟩, rfl, hwr⟩ | ⟨rfl, k1, rfl⟩
  · have e0 : T2.1 mo 0 = 0 := m1.trans k0
    refine ⟨e0, fun _ => ?_⟩
    rw [zpj_at, if_pos ⟨rfl, rfl⟩, hwr, hr, m2 e0]
    unfold zcount zmcount
    rw [h4, h3, h5, hd, a33, a34, a36, a41]
  · exact ⟨m1.trans k1, fun z => absurd z (by decide)⟩
theorem zln1 {b : Int32} (h : kLine b = 0) : (0 : Int32) < b ∧ (((-1 : Int64).toUInt64 >>> ((b - 1).toInt64.toUInt64 &&& Int64.toUInt64 63)).toInt64.toInt32 &&& 1) = 1 := by
  have hb : ¬ (b < 1 ∨ ¬ b ≤ 64) := fun z => absurd ((if_pos z).symm.trans h) (by decide)
  have h1 : ¬ b < 1 := fun z => hb (Or.inl z)
  have h2 : b ≤ 64 := Classical.byContradiction (fun z => hb (Or.inr z))
  obtain ⟨j, hj, e⟩ := nI_of2 (M := 64) (n := 64) (x := b) (by decide) (fun z => h1 (Int32.lt_of_lt_of_le z (by decide))) h2
  subst e
  have key : ∀ j : Fin 65, ¬ nI j.1 < 1 → (0 : Int32) < nI j.1 ∧ (((-1 : Int64).toUInt64 >>> ((nI j.1 - 1).toInt64.toUInt64 &&& Int64.toUInt64 63)).toInt64.toInt32 &&& 1) = 1 := by decide +kernel
  exact key ⟨j, by omega⟩ h1
theorem f_line {S1 T1 S2 T2 : zS} {x f n sc d o mo : Nat} {ad : Nat → Nat} {b k9 r2 : Int32} (hF : zF0 x f n sc d mo ad S1 S2) (hw : (k9 = 0 ∧ (∃ (r : Int32) (T9 : zS) (w : Int64), (kLine b = 0 ∧ T9 = S1 ∧ r = ((S1.2.1 x 6).toUInt64 >>> ((b - 1).toInt64.toUInt64 &&& Int64.toUInt64 63)).toInt64.toInt32 &&& 1) ∧ T1 = zpj T9 o 0 w ∧ w = r.toInt64)) ∨ (k9 = 1 ∧ (kLine b = 1) ∧ T1 = S1)) (hm : (zC mo ad [] [0] S2 T2 ∧ zI mo ad T2) ∧ T2.1 mo 0 = kLine b ∧ (T2.1 mo 0 = 0 → S2.1 mo 33 < b → r2 = 1)) : T2.1 mo 0 = k9 ∧ (k9 = 0 → T1.2.1 o 0 = r2.toInt64) := by
  obtain ⟨-, m1, m2⟩ := hm
  obtain ⟨⟨⟨-, h6⟩, -⟩, ⟨a33, -⟩, -⟩ := hF
  rcases hw with ⟨rfl, r, T, w, ⟨k0, rfl, hr⟩, rfl, hwr⟩ | ⟨rfl, k1, rfl⟩
  · have e0 : T2.1 mo 0 = 0 := m1.trans k0
    obtain ⟨z1, z2⟩ := zln1 k0
    refine ⟨e0, fun _ => ?_⟩
    rw [zpj_at, if_pos ⟨rfl, rfl⟩, hwr, hr, m2 e0 (by rw [a33]; exact z1), h6, z2]
  · exact ⟨m1.trans k1, fun z => absurd z (by decide)⟩
theorem f_disturb {G1 : zG} {S1 T1 S2 T2 : zS} {x f n sc d mo : Nat} {ad : Nat → Nat} {b v k9 : Int32} (hF : zF0 x f n sc d mo ad S1 S2) (hw : (k9 = 0 ∧ (kDist b v (S1.1 d 2) = 0 ∧ zSt G1 S1 T1)) ∨ (k9 = 1 ∧ (kDist b v (S1.1 d 2) = 1) ∧ T1 = S1) ∨ (k9 = 2 ∧ (kDist b v (S1.1 d 2) = 2) ∧ T1 = S1)) (hm : (zC mo ad [39, 40] [0, 41] S2 T2 ∧ zI mo ad T2) ∧ (S2.1 mo 41 = 0 → T2.1 mo 0 = kDist b v 0)) : T2.1 mo 0 = k9 := by
  obtain ⟨-, m1⟩ := hm
  obtain ⟨⟨-, -, -, hd, -⟩, ⟨-, -, -, a41⟩, -⟩ := hF
  rw [m1 a41]
  rw [hd] at hw
  rcases hw with ⟨rfl, k0, -⟩ | ⟨rfl, k0, -⟩ | ⟨rfl, k0, -⟩ <;> exact k0
theorem f_byteAt {S1 T1 S2 T2 : zS} {x f n sc d o mo : Nat} {ad : Nat → Nat} {v id b k9 r2 : Int32} (hF : zF0 x f n sc d mo ad S1 S2) (hw : (k9 = 0 ∧ (∃ (r : Int32) (T9 : zS) (w : Int64), (T9 = S1 ∧ ∃ y, zfo S1 f id (some y)) ∧ T1 = zpj T9 o 0 w ∧ w = r.toInt64)) ∨ (k9 = 1 ∧ (True) ∧ T1 = S1)) (hm : (zC mo ad [] [0] S2 T2 ∧ zI mo ad T2) ∧ (T2.1 mo 0 = 1 ∨ ∃ j, j < 62 ∧ id = nI j ∧ ¬ S2.1 (ad 1) j = 0)) : T2.1 mo 0 = k9 ∧ (k9 = 0 → T1.2.1 o 0 = r2.toInt64) := by
  obtain ⟨-, m1⟩ := hm
  obtain ⟨⟨-, hf, -⟩, -, h1, -⟩ := hF
  have e1 : T2.1 mo 0 = 1 := m1.elim (fun z => z) (fun ⟨j, _, _, z⟩ => absurd (h1 j) z)
  rcases hw with ⟨rfl, r, T, w, ⟨rfl, y, hfo⟩, rfl, hwr⟩ | ⟨rfl, k1, rfl⟩
  · exfalso
    rcases hfo with ⟨j, -, -, z⟩ | ⟨-, z⟩
    · rw [hf j] at z; cases z
    · cases z
  · exact ⟨e1, fun z => absurd z (by decide)⟩
theorem f_taken {S1 T1 S2 T2 : zS} {x f n sc d o mo : Nat} {ad : Nat → Nat} {v id k9 r2 : Int32} (hF : zF0 x f n sc d mo ad S1 S2) (hw : (k9 = 0 ∧ (∃ (r : Int32) (T9 : zS) (w : Int64), (T9 = S1 ∧ ∃ y, zfo S1 f id (some y)) ∧ T1 = zpj T9 o 0 w ∧ w = r.toInt64)) ∨ (k9 = 1 ∧ (True) ∧ T1 = S1)) (hm : (zC mo ad [] [0] S2 T2 ∧ zI mo ad T2) ∧ (T2.1 mo 0 = 1 ∨ ∃ j, j < 62 ∧ id = nI j ∧ ¬ S2.1 (ad 1) j = 0)) : T2.1 mo 0 = k9 ∧ (k9 = 0 → T1.2.1 o 0 = r2.toInt64) := by
  obtain ⟨-, m1⟩ := hm
  obtain ⟨⟨-, hf, -⟩, -, h1, -⟩ := hF
  have e1 : T2.1 mo 0 = 1 := m1.elim (fun z => z) (fun ⟨j, _, _, z⟩ => absurd (h1 j) z)
  rcases hw with ⟨rfl, r, T, w, ⟨rfl, y, hfo⟩, rfl, hwr⟩ | ⟨rfl, k1, rfl⟩
  · exfalso
    rcases hfo with ⟨j, -, -, z⟩ | ⟨-, z⟩
    · rw [hf j] at z; cases z
    · cases z
  · exact ⟨e1, fun z => absurd z (by decide)⟩
