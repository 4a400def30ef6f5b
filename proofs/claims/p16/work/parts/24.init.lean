/-- the reference's object, its arrays below place m made -/
def zMp (G : zG) (S : zS) (mo : Nat) (ad : Nat → Nat) (m : Nat) (fl : Nat → Int32) : Prop := zO G mo 7 ∧ (∀ k, k < m → 0 < zmN k → S.2.2 mo k = some (ad k) ∧ zO G (ad k) (zmK k) ∧ G.2.2 (ad k) = zmN k ∧ ∀ j, S.1 (ad k) j = 0) ∧ (∀ i j, i < m → j < m → 0 < zmN i → 0 < zmN j → ad i = ad j → i = j) ∧ ∀ k, S.1 mo k = fl k
theorem zMp.step {G : zG} {S : zS} {mo : Nat} {ad : Nat → Nat} {m : Nat} {fl : Nat → Int32} (h : zMp G S mo ad m fl) {k q kd n : Nat} (hm : m ≤ k) (hg : ∀ i, i < k → m ≤ i → zmN i = 0) (hkd : kd = zmK k) (hn : n = zmN k) (hq : q ∉ G.1) : zMp (zGn G q kd n) (zpq (zSn S q) mo k (some q)) mo (va_up ad k q) (k + 1) fl := by
  subst hkd; subst hn
  obtain ⟨h0, h1, h2, h3⟩ := h
  have hmq : mo ≠ q := h0.ne hq
  have lt : ∀ i, i < k + 1 → 0 < zmN i → i ≠ k → i < m := fun i hi hp hk => by
    rcases Nat.lt_or_ge i m with c | c
    · exact c
    · have := hg i (by omega) c; omega
  refine ⟨h0.gn hq, fun i hi hp => ?_, fun i j hi hj hpi hpj e => ?_, fun i => ?_⟩
  · by_cases c : i = k
    · subst c
      rw [va_up_self]
      refine ⟨by rw [zpq_at, if_pos ⟨rfl, rfl⟩], zO.nw G q _ _, zGn_len G q _ _, fun j => ?_⟩
      rw [zpq_1, zSn_1, if_pos rfl]
    · obtain ⟨a1, a2, a3, a4⟩ := h1 i (lt i hi hp c) hp
      rw [va_up_ne _ _ c]
      refine ⟨?_, a2.gn hq, (zGn_len' (a2.ne hq) _ _).trans a3, fun j => ?_⟩
      · rw [zpq_at, if_neg (fun z => c z.2), zSn_22, if_neg hmq]; exact a1
      · rw [zpq_1, zSn_1, if_neg (a2.ne hq)]; exact a4 j
  · by_cases c : i = k
    · by_cases d : j = k
      · rw [c, d]
      · obtain ⟨_, a2, _, _⟩ := h1 j (lt j hj hpj d) hpj
        rw [c, va_up_self, va_up_ne _ _ d] at e
        exact absurd e.symm (a2.ne hq)
    · obtain ⟨_, a2, _, _⟩ := h1 i (lt i hi hpi c) hpi
      by_cases d : j = k
      · rw [d, va_up_self, va_up_ne _ _ c] at e
        exact absurd e (a2.ne hq)
      · rw [va_up_ne _ _ c, va_up_ne _ _ d] at e
        exact h2 i j (lt i hi hpi c) (lt j hj hpj d) hpi hpj e
  · rw [zpq_1, zSn_1, if_neg hmq]; exact h3 i
theorem zMp.fld {G : zG} {S : zS} {mo : Nat} {ad : Nat → Nat} {m : Nat} {fl : Nat → Int32} (h : zMp G S mo ad m fl) (k : Nat) (v : Int32) : zMp G (zpi S mo k v) mo ad m (upd fl k v) := by
  obtain ⟨h0, h1, h2, h3⟩ := h
  refine ⟨h0, fun i hi hp => ?_, h2, fun i => ?_⟩
  · obtain ⟨a1, a2, a3, a4⟩ := h1 i hi hp
    have hne : ad i ≠ mo := fun c => by
      have a := a2.2
      rw [c, h0.2] at a
      rcases zmK_or i with q | q <;> rw [q] at a <;> cases a
    exact ⟨a1, a2, a3, fun j => by rw [zpi_off S hne]; exact a4 j⟩
  · by_cases c : i = k
    · subst c; rw [zpi_row, zupd_s, zupd_s]
    · rw [zpi_row, zupd_n _ c, zupd_n _ c]; exact h3 i
theorem zMp.zm {G : zG} {S : zS} {mo : Nat} {ad : Nat → Nat} {m : Nat} {fl : Nat → Int32} (h : zMp G S mo ad m fl) (hm : ∀ k, 0 < zmN k → k < m) : zM G S mo ad := ⟨h.1, fun k hk => ⟨(h.2.1 k (hm k hk) hk).1, (h.2.1 k (hm k hk) hk).2.1, (h.2.1 k (hm k hk) hk).2.2.1⟩, fun i j hi hj e => h.2.2.1 i j (hm i hi) (hm j hj) hi hj e⟩
theorem zmN_lt : ∀ k, 0 < zmN k → k < 41 := by
  intro k hk
  rcases Nat.lt_or_ge k 41 with c | c
  · exact c
  · obtain ⟨j, rfl⟩ : ∃ j, k = j + 41 := ⟨k - 41, by omega⟩
    exact absurd hk (by show ¬ 0 < zmN (j + 41); simp [zmN])
/-- the reference as it is made -/
def zMi (G : zG) (S : zS) (mo : Nat) (ad : Nat → Nat) : Prop := zM G S mo ad ∧ zI mo ad S ∧ ((∀ j, S.1 (ad 1) j = 0) ∧ (∀ j, S.1 (ad 12) j = 0) ∧ ∀ n, n < 8 → S.1 (ad 16) n = 1) ∧ (S.1 mo 33 = 0 ∧ S.1 mo 9 = 0 ∧ S.1 mo 0 = 0) ∧ zZr (S.1 (ad 6)) ∧ (∀ k, 0 < zmN k → k ∉ [13, 16, 38] → ∀ j, S.1 (ad k) j = 0) ∧ S.1 mo 34 = -1 ∧ S.1 mo 36 = 0 ∧ S.1 mo 41 = 0
theorem zMi.of {G : zG} {S T : zS} {mo : Nat} {ad : Nat → Nat} (h : zMp G S mo ad 41 (upd (fun _ => 0) 34 (-1))) (c : zC mo ad [13, 16, 38] [] S T) (ha : ∀ n, n < 8 → T.1 (ad 16) n = 1) : zMi G T mo ad := by
  have z : ∀ k, 0 < zmN k → k ∉ [13, 16, 38] → ∀ j, T.1 (ad k) j = 0 := fun k hk hn j => by rw [c.2.1 k hk hn]; exact (h.2.1 k (zmN_lt k hk) hk).2.2.2 j
  have f : ∀ k, k ≠ 34 → T.1 mo k = 0 := fun k hk => by rw [c.2.2 k (fun q => by cases q), h.2.2.2 k, zupd_n _ hk]
  have f34 : T.1 mo 34 = -1 := by rw [c.2.2 34 (fun q => by cases q), h.2.2.2 34, zupd_s]
  refine ⟨(h.zm zmN_lt).eq c.1, ⟨⟨fun i _ => ⟨0, by omega, z 2 (by decide) (by decide) i⟩, fun n hn => ⟨⟨0, by omega, z 14 (by decide) (by decide) n⟩, 0, 0, by omega, z 28 (by decide) (by decide) n, by omega, z 2 (by decide) (by decide) 0, fun q => absurd ((ha n hn).symm.trans q) (by decide), fun q => absurd ((ha n hn).symm.trans q) (by decide)⟩⟩, ⟨0, by omega, f 9 (by decide)⟩, ⟨0, by omega, f 33 (by decide)⟩, Or.inl f34, 0, by omega, f 41 (by decide)⟩, ⟨z 1 (by decide) (by decide), z 12 (by decide) (by decide), ha⟩, ⟨f 33 (by decide), f 9 (by decide), f 0 (by decide)⟩, fun j => by rw [z 6 (by decide) (by decide) j]; rfl, z, f34, f 36 (by decide), f 41 (by decide)⟩
def zAt (ad : Nat → Nat) (k : Nat) (S : zS) : Prop := ∀ j, j < k → S.1 (ad 16) j = 1
theorem zAt1 {ad : Nat → Nat} {k : Nat} {S : zS} (h : zAt ad k S) (S' : zS) (e : S' = S := by rfl) : zAt ad (k + 1) (zpi S' (ad 16) k 1) := by
  subst e
  intro j hj
  rw [zpi_row]
  by_cases c : j = k
  · subst c; exact zupd_s _ _ _
  · rw [zupd_n _ c]; exact h j (by omega)
theorem zAt.off {G : zG} {S0 : zS} {mo : Nat} {ad : Nat → Nat} {n : Nat} {S : zS} (h : zAt ad n S) (hM : zM G S0 mo ad) (S' : zS) {k : Nat} (hk : 0 < zmN k) (hn : 16 ≠ k) (j : Nat) (v : Int32) (e : S' = S := by rfl) : zAt ad n (zpi S' (ad k) j v) := by
  subst e
  intro i hi
  rw [zpi_off S' (hM.ne (i := 16) (j := k) (by decide) hk hn)]; exact h i hi
set_option maxHeartbeats 4000000 in
set_option maxRecDepth 100000 in
theorem c_X7_init (l : Launch) (dC : Nat → ClassId) (dI : Nat → Nat → Nat) (cy : Nat → ClassId) (G : zG) (S : zS) (sz : Nat) (mo : Nat) (hp : zMp G S mo (fun _ => 0) 0 (fun _ => 0)) : Met l yX7_init wsX7_init ({ frames := 1, cells := 34, slots := 6488, locals := 12 }) (zP dC dI cy [.ref mo] G S sz) (va_Qv (fun u : zG × zS => ∃ ad, zMi u.1 u.2 mo ad) (fun u => zB dC dI cy (zA cy G S sz) u.1 u.2) (zA cy G S sz)) 34 6488 (zA cy G S sz) := by
  refine Met.ofW (cc := cX7_init) (maxL := 2) (ret := none) (by decide) rfl ?_
  intro p e s m args below meth c s₁ B hml hv
  obtain ⟨rfl, hsz, hP, hK, hD0, hN⟩ := hv
  have hx := B.exec
  have hb := B.bytes
  have hr := B.returns
  have hts := atoms_spec (ws := wsX7_init) B.pre
  have hown : s.vm.findClass RX7 = some m.cls := findClass_of_methodNamed B.named
  have hlocks := B.notSynchronized
  have hO_mo := hp.1
  have hin : meth.name = "<init>" := (name_of_methodNamed B.named B.method).1
  subst hsz
  have hD : va_D (zA cy G S s.heap.size) (zW cy G S) := hD0.self
  generalize hAe : zA cy G S s.heap.size = A at hD ⊢
  have hA : ∀ q : Nat, s.heap.size ≤ q → A q := fun q h => by rw [← hAe]; exact Or.inr h
  have hS : va_S A s.heap s.heap [] := va_S.rf
  have hl := lv_entry ([.ref mo]) (n := 2) (Nat.le_of_ble_eq_true rfl)
  rw [lg_entry_eq]
  generalize (lg_sl ([.ref mo]) ++ List.replicate (2 - (lg_sl ([.ref mo])).length) Slot.unset).toArray = ls at hl ⊢
  have hl : lv_has ls 2 [(0, .ref mo)] := hl
  have hi7 : ∀ w ∈ wsX70, w ∈ wsX7_init := by decide +kernel
  refine lv_aload_n hx hb dX7_init_0 rfl (lv_at hl 0 rfl) ?_
  refine W.objInit hx hb hown (hts (.methodLink RX7 1 objectInit) (by decide +kernel)) (hts (.instanceMethod objectInit) (by decide +kernel)) (hts (.code objectInit ⟨#[0xb1]⟩ 1 none) (by decide +kernel)) rfl (by rw [hml]; exact hl.1) rfl dX7_init_1 (Nat.le_of_ble_eq_true rfl) (Nat.le_of_ble_eq_true rfl) ?_
  refine W.eq (g2 := F0 m 4 ls []) rfl ?_
  refine lv_aload_n hx hb dX7_init_4 rfl (lv_at hl 0 rfl) ?_
  refine lv_bipush (v := 62) hx hb dX7_init_5 (by decide) ?_
  refine znewaz (n := 62) (N' := 62) hx hb (hts (.arrayClass .boolean) (by decide +kernel)) hK hP hD hS hA (by decide) (by decide) (by decide) (Nat.le_of_ble_eq_true rfl) (Nat.le_of_ble_eq_true rfl) dX7_init_7 (fun q1 H hq_q1 hP hD hS => ?_)
  have hO_mo := hp.1.gn (kd' := 10) (n := 62) hq_q1
  refine zputqF (ci := 7) (v := (some q1)) (ty := .array .boolean) (C := RX7) (T := TX7) (N := 42) hx hb hts hi7 tyX7 tyX7_ok nmX7 hown hK hP hD hS hO_mo rfl rfl 1 (by decide) (hts (.fieldLink RX7 7 "LinClusterModel" "there" "[Z") (by decide +kernel)) (fun _ h9 => h9) rfl hin rfl (by decide +kernel) rfl rfl (Nat.le_of_ble_eq_true rfl) rfl dX7_init_9 (fun H locs hP hD hS => ?_)
  have hp := hp.step (k := 1) (kd := 10) (n := 62) (by decide) (by decide) rfl rfl hq_q1
  generalize (zGn G q1 10 62) = G2 at hP hD hp
  generalize zpq (zSn S q1) mo 1 (some q1) = S3 at hP hD hp
  generalize va_up (fun _ => 0) 1 q1 = ad4 at hp
  have hO_mo := hp.1
  refine lv_aload_n hx hb dX7_init_12 rfl (lv_at hl 0 rfl) ?_
  refine lv_bipush (v := 62) hx hb dX7_init_13 (by decide) ?_
  refine znewai (n := 62) (N' := 62) hx hb (hts (.arrayClass .int) (by decide +kernel)) hK hP hD hS hA (by decide) (by decide) (by decide) (Nat.le_of_ble_eq_true rfl) (Nat.le_of_ble_eq_true rfl) dX7_init_15 (fun q5 H hq_q5 hP hD hS => ?_)
  have hO_mo := hp.1.gn (kd' := 8) (n := 62) hq_q5
  refine zputqF (ci := 7) (v := (some q5)) (ty := .array .int) (C := RX7) (T := TX7) (N := 42) hx hb hts hi7 tyX7 tyX7_ok nmX7 hown hK hP hD hS hO_mo rfl rfl 2 (by decide) (hts (.fieldLink RX7 13 "LinClusterModel" "lengths" "[I") (by decide +kernel)) (fun _ h9 => h9) rfl hin rfl (by decide +kernel) rfl rfl (Nat.le_of_ble_eq_true rfl) rfl dX7_init_17 (fun H locs hP hD hS => ?_)
  have hp := hp.step (k := 2) (kd := 8) (n := 62) (by decide) (by decide) rfl rfl hq_q5
  generalize (zGn G2 q5 8 62) = G6 at hP hD hp
  generalize zpq (zSn S3 q5) mo 2 (some q5) = S7 at hP hD hp
  generalize va_up ad4 2 q5 = ad8 at hp
  have hO_mo := hp.1
  refine lv_aload_n hx hb dX7_init_20 rfl (lv_at hl 0 rfl) ?_
  refine lv_bipush (v := 62) hx hb dX7_init_21 (by decide) ?_
  refine znewai (n := 62) (N' := 62) hx hb (hts (.arrayClass .int) (by decide +kernel)) hK hP hD hS hA (by decide) (by decide) (by decide) (Nat.le_of_ble_eq_true rfl) (Nat.le_of_ble_eq_true rfl) dX7_init_23 (fun q9 H hq_q9 hP hD hS => ?_)
  have hO_mo := hp.1.gn (kd' := 8) (n := 62) hq_q9
  refine zputqF (ci := 7) (v := (some q9)) (ty := .array .int) (C := RX7) (T := TX7) (N := 42) hx hb hts hi7 tyX7 tyX7_ok nmX7 hown hK hP hD hS hO_mo rfl rfl 3 (by decide) (hts (.fieldLink RX7 17 "LinClusterModel" "publishers" "[I") (by decide +kernel)) (fun _ h9 => h9) rfl hin rfl (by decide +kernel) rfl rfl (Nat.le_of_ble_eq_true rfl) rfl dX7_init_25 (fun H locs hP hD hS => ?_)
  have hp := hp.step (k := 3) (kd := 8) (n := 62) (by decide) (by decide) rfl rfl hq_q9
  generalize (zGn G6 q9 8 62) = G10 at hP hD hp
  generalize zpq (zSn S7 q9) mo 3 (some q9) = S11 at hP hD hp
  generalize va_up ad8 3 q9 = ad12 at hp
  have hO_mo := hp.1
  refine lv_aload_n hx hb dX7_init_28 rfl (lv_at hl 0 rfl) ?_
  refine lv_bipush (v := 62) hx hb dX7_init_29 (by decide) ?_
  refine znewaz (n := 62) (N' := 62) hx hb (hts (.arrayClass .boolean) (by decide +kernel)) hK hP hD hS hA (by decide) (by decide) (by decide) (Nat.le_of_ble_eq_true rfl) (Nat.le_of_ble_eq_true rfl) dX7_init_31 (fun q13 H hq_q13 hP hD hS => ?_)
  have hO_mo := hp.1.gn (kd' := 10) (n := 62) hq_q13
  refine zputqF (ci := 7) (v := (some q13)) (ty := .array .boolean) (C := RX7) (T := TX7) (N := 42) hx hb hts hi7 tyX7 tyX7_ok nmX7 hown hK hP hD hS hO_mo rfl rfl 4 (by decide) (hts (.fieldLink RX7 20 "LinClusterModel" "enhanced" "[Z") (by decide +kernel)) (fun _ h9 => h9) rfl hin rfl (by decide +kernel) rfl rfl (Nat.le_of_ble_eq_true rfl) rfl dX7_init_33 (fun H locs hP hD hS => ?_)
  have hp := hp.step (k := 4) (kd := 10) (n := 62) (by decide) (by decide) rfl rfl hq_q13
  generalize (zGn G10 q13 10 62) = G14 at hP hD hp
  generalize zpq (zSn S11 q13) mo 4 (some q13) = S15 at hP hD hp
  generalize va_up ad12 4 q13 = ad16 at hp
  have hO_mo := hp.1
  refine lv_aload_n hx hb dX7_init_36 rfl (lv_at hl 0 rfl) ?_
  refine lv_sipush (v := 496) hx hb dX7_init_37 (by decide) ?_
  refine znewai (n := 496) (N' := 496) hx hb (hts (.arrayClass .int) (by decide +kernel)) hK hP hD hS hA (by decide) (by decide) (by decide) (Nat.le_of_ble_eq_true rfl) (Nat.le_of_ble_eq_true rfl) dX7_init_40 (fun q17 H hq_q17 hP hD hS => ?_)
  have hO_mo := hp.1.gn (kd' := 8) (n := 496) hq_q17
  refine zputqF (ci := 7) (v := (some q17)) (ty := .array .int) (C := RX7) (T := TX7) (N := 42) hx hb hts hi7 tyX7 tyX7_ok nmX7 hown hK hP hD hS hO_mo rfl rfl 5 (by decide) (hts (.fieldLink RX7 23 "LinClusterModel" "bytes" "[I") (by decide +kernel)) (fun _ h9 => h9) rfl hin rfl (by decide +kernel) rfl rfl (Nat.le_of_ble_eq_true rfl) rfl dX7_init_42 (fun H locs hP hD hS => ?_)
  have hp := hp.step (k := 5) (kd := 8) (n := 496) (by decide) (by decide) rfl rfl hq_q17
  generalize (zGn G14 q17 8 496) = G18 at hP hD hp
  generalize zpq (zSn S15 q17) mo 5 (some q17) = S19 at hP hD hp
  generalize va_up ad16 5 q17 = ad20 at hp
  have hO_mo := hp.1
  refine lv_aload_n hx hb dX7_init_45 rfl (lv_at hl 0 rfl) ?_
  refine lv_sipush (v := 496) hx hb dX7_init_46 (by decide) ?_
  refine znewaz (n := 496) (N' := 496) hx hb (hts (.arrayClass .boolean) (by decide +kernel)) hK hP hD hS hA (by decide) (by decide) (by decide) (Nat.le_of_ble_eq_true rfl) (Nat.le_of_ble_eq_true rfl) dX7_init_49 (fun q21 H hq_q21 hP hD hS => ?_)
  have hO_mo := hp.1.gn (kd' := 10) (n := 496) hq_q21
  refine zputqF (ci := 7) (v := (some q21)) (ty := .array .boolean) (C := RX7) (T := TX7) (N := 42) hx hb hts hi7 tyX7 tyX7_ok nmX7 hown hK hP hD hS hO_mo rfl rfl 6 (by decide) (hts (.fieldLink RX7 26 "LinClusterModel" "listens" "[Z") (by decide +kernel)) (fun _ h9 => h9) rfl hin rfl (by decide +kernel) rfl rfl (Nat.le_of_ble_eq_true rfl) rfl dX7_init_51 (fun H locs hP hD hS => ?_)
  have hp := hp.step (k := 6) (kd := 10) (n := 496) (by decide) (by decide) rfl rfl hq_q21
  generalize (zGn G18 q21 10 496) = G22 at hP hD hp
  generalize zpq (zSn S19 q21) mo 6 (some q21) = S23 at hP hD hp
  generalize va_up ad20 6 q21 = ad24 at hp
  have hO_mo := hp.1
  refine lv_aload_n hx hb dX7_init_54 rfl (lv_at hl 0 rfl) ?_
  refine lv_sipush (v := 496) hx hb dX7_init_55 (by decide) ?_
  refine znewai (n := 496) (N' := 496) hx hb (hts (.arrayClass .int) (by decide +kernel)) hK hP hD hS hA (by decide) (by decide) (by decide) (Nat.le_of_ble_eq_true rfl) (Nat.le_of_ble_eq_true rfl) dX7_init_58 (fun q25 H hq_q25 hP hD hS => ?_)
  have hO_mo := hp.1.gn (kd' := 8) (n := 496) hq_q25
  refine zputqF (ci := 7) (v := (some q25)) (ty := .array .int) (C := RX7) (T := TX7) (N := 42) hx hb hts hi7 tyX7 tyX7_ok nmX7 hown hK hP hD hS hO_mo rfl rfl 7 (by decide) (hts (.fieldLink RX7 29 "LinClusterModel" "takings" "[I") (by decide +kernel)) (fun _ h9 => h9) rfl hin rfl (by decide +kernel) rfl rfl (Nat.le_of_ble_eq_true rfl) rfl dX7_init_60 (fun H locs hP hD hS => ?_)
  have hp := hp.step (k := 7) (kd := 8) (n := 496) (by decide) (by decide) rfl rfl hq_q25
  generalize (zGn G22 q25 8 496) = G26 at hP hD hp
  generalize zpq (zSn S23 q25) mo 7 (some q25) = S27 at hP hD hp
  generalize va_up ad24 7 q25 = ad28 at hp
  have hO_mo := hp.1
  refine lv_aload_n hx hb dX7_init_63 rfl (lv_at hl 0 rfl) ?_
  refine lv_sipush (v := 3968) hx hb dX7_init_64 (by decide) ?_
  refine znewai (n := 3968) (N' := 3968) hx hb (hts (.arrayClass .int) (by decide +kernel)) hK hP hD hS hA (by decide) (by decide) (by decide) (Nat.le_of_ble_eq_true rfl) (Nat.le_of_ble_eq_true rfl) dX7_init_67 (fun q29 H hq_q29 hP hD hS => ?_)
  have hO_mo := hp.1.gn (kd' := 8) (n := 3968) hq_q29
  refine zputqF (ci := 7) (v := (some q29)) (ty := .array .int) (C := RX7) (T := TX7) (N := 42) hx hb hts hi7 tyX7 tyX7_ok nmX7 hown hK hP hD hS hO_mo rfl rfl 8 (by decide) (hts (.fieldLink RX7 32 "LinClusterModel" "kept" "[I") (by decide +kernel)) (fun _ h9 => h9) rfl hin rfl (by decide +kernel) rfl rfl (Nat.le_of_ble_eq_true rfl) rfl dX7_init_69 (fun H locs hP hD hS => ?_)
  have hp := hp.step (k := 8) (kd := 8) (n := 3968) (by decide) (by decide) rfl rfl hq_q29
  generalize (zGn G26 q29 8 3968) = G30 at hP hD hp
  generalize zpq (zSn S27 q29) mo 8 (some q29) = S31 at hP hD hp
  generalize va_up ad28 8 q29 = ad32 at hp
  have hO_mo := hp.1
  refine lv_aload_n hx hb dX7_init_72 rfl (lv_at hl 0 rfl) ?_
  refine lv_bipush (v := 16) hx hb dX7_init_73 (by decide) ?_
  refine znewai (n := 16) (N' := 16) hx hb (hts (.arrayClass .int) (by decide +kernel)) hK hP hD hS hA (by decide) (by decide) (by decide) (Nat.le_of_ble_eq_true rfl) (Nat.le_of_ble_eq_true rfl) dX7_init_75 (fun q33 H hq_q33 hP hD hS => ?_)
  have hO_mo := hp.1.gn (kd' := 8) (n := 16) hq_q33
  refine zputqF (ci := 7) (v := (some q33)) (ty := .array .int) (C := RX7) (T := TX7) (N := 42) hx hb hts hi7 tyX7 tyX7_ok nmX7 hown hK hP hD hS hO_mo rfl rfl 10 (by decide) (hts (.fieldLink RX7 35 "LinClusterModel" "slotIds" "[I") (by decide +kernel)) (fun _ h9 => h9) rfl hin rfl (by decide +kernel) rfl rfl (Nat.le_of_ble_eq_true rfl) rfl dX7_init_77 (fun H locs hP hD hS => ?_)
  have hp := hp.step (k := 10) (kd := 8) (n := 16) (by decide) (by decide) rfl rfl hq_q33
  generalize (zGn G30 q33 8 16) = G34 at hP hD hp
  generalize zpq (zSn S31 q33) mo 10 (some q33) = S35 at hP hD hp
  generalize va_up ad32 10 q33 = ad36 at hp
  have hO_mo := hp.1
  refine lv_aload_n hx hb dX7_init_80 rfl (lv_at hl 0 rfl) ?_
  refine lv_bipush (v := 16) hx hb dX7_init_81 (by decide) ?_
  refine znewai (n := 16) (N' := 16) hx hb (hts (.arrayClass .int) (by decide +kernel)) hK hP hD hS hA (by decide) (by decide) (by decide) (Nat.le_of_ble_eq_true rfl) (Nat.le_of_ble_eq_true rfl) dX7_init_83 (fun q37 H hq_q37 hP hD hS => ?_)
  have hO_mo := hp.1.gn (kd' := 8) (n := 16) hq_q37
  refine zputqF (ci := 7) (v := (some q37)) (ty := .array .int) (C := RX7) (T := TX7) (N := 42) hx hb hts hi7 tyX7 tyX7_ok nmX7 hown hK hP hD hS hO_mo rfl rfl 11 (by decide) (hts (.fieldLink RX7 38 "LinClusterModel" "slotBits" "[I") (by decide +kernel)) (fun _ h9 => h9) rfl hin rfl (by decide +kernel) rfl rfl (Nat.le_of_ble_eq_true rfl) rfl dX7_init_85 (fun H locs hP hD hS => ?_)
  have hp := hp.step (k := 11) (kd := 8) (n := 16) (by decide) (by decide) rfl rfl hq_q37
  generalize (zGn G34 q37 8 16) = G38 at hP hD hp
  generalize zpq (zSn S35 q37) mo 11 (some q37) = S39 at hP hD hp
  generalize va_up ad36 11 q37 = ad40 at hp
  have hO_mo := hp.1
  refine lv_aload_n hx hb dX7_init_88 rfl (lv_at hl 0 rfl) ?_
  refine lv_bipush (v := 8) hx hb dX7_init_89 (by decide) ?_
  refine znewai (n := 8) (N' := 8) hx hb (hts (.arrayClass .int) (by decide +kernel)) hK hP hD hS hA (by decide) (by decide) (by decide) (Nat.le_of_ble_eq_true rfl) (Nat.le_of_ble_eq_true rfl) dX7_init_91 (fun q41 H hq_q41 hP hD hS => ?_)
  have hO_mo := hp.1.gn (kd' := 8) (n := 8) hq_q41
  refine zputqF (ci := 7) (v := (some q41)) (ty := .array .int) (C := RX7) (T := TX7) (N := 42) hx hb hts hi7 tyX7 tyX7_ok nmX7 hown hK hP hD hS hO_mo rfl rfl 12 (by decide) (hts (.fieldLink RX7 41 "LinClusterModel" "spaces" "[I") (by decide +kernel)) (fun _ h9 => h9) rfl hin rfl (by decide +kernel) rfl rfl (Nat.le_of_ble_eq_true rfl) rfl dX7_init_93 (fun H locs hP hD hS => ?_)
  have hp := hp.step (k := 12) (kd := 8) (n := 8) (by decide) (by decide) rfl rfl hq_q41
  generalize (zGn G38 q41 8 8) = G42 at hP hD hp
  generalize zpq (zSn S39 q41) mo 12 (some q41) = S43 at hP hD hp
  generalize va_up ad40 12 q41 = ad44 at hp
  have hO_mo := hp.1
  refine lv_aload_n hx hb dX7_init_96 rfl (lv_at hl 0 rfl) ?_
  refine lv_bipush (v := 8) hx hb dX7_init_97 (by decide) ?_
  refine znewai (n := 8) (N' := 8) hx hb (hts (.arrayClass .int) (by decide +kernel)) hK hP hD hS hA (by decide) (by decide) (by decide) (Nat.le_of_ble_eq_true rfl) (Nat.le_of_ble_eq_true rfl) dX7_init_99 (fun q45 H hq_q45 hP hD hS => ?_)
  have hO_mo := hp.1.gn (kd' := 8) (n := 8) hq_q45
  refine zputqF (ci := 7) (v := (some q45)) (ty := .array .int) (C := RX7) (T := TX7) (N := 42) hx hb hts hi7 tyX7 tyX7_ok nmX7 hown hK hP hD hS hO_mo rfl rfl 13 (by decide) (hts (.fieldLink RX7 44 "LinClusterModel" "statusIds" "[I") (by decide +kernel)) (fun _ h9 => h9) rfl hin rfl (by decide +kernel) rfl rfl (Nat.le_of_ble_eq_true rfl) rfl dX7_init_101 (fun H locs hP hD hS => ?_)
  have hp := hp.step (k := 13) (kd := 8) (n := 8) (by decide) (by decide) rfl rfl hq_q45
  generalize (zGn G42 q45 8 8) = G46 at hP hD hp
  generalize zpq (zSn S43 q45) mo 13 (some q45) = S47 at hP hD hp
  generalize va_up ad44 13 q45 = ad48 at hp
  have hO_mo := hp.1
  refine lv_aload_n hx hb dX7_init_104 rfl (lv_at hl 0 rfl) ?_
  refine lv_bipush (v := 8) hx hb dX7_init_105 (by decide) ?_
  refine znewai (n := 8) (N' := 8) hx hb (hts (.arrayClass .int) (by decide +kernel)) hK hP hD hS hA (by decide) (by decide) (by decide) (Nat.le_of_ble_eq_true rfl) (Nat.le_of_ble_eq_true rfl) dX7_init_107 (fun q49 H hq_q49 hP hD hS => ?_)
  have hO_mo := hp.1.gn (kd' := 8) (n := 8) hq_q49
  refine zputqF (ci := 7) (v := (some q49)) (ty := .array .int) (C := RX7) (T := TX7) (N := 42) hx hb hts hi7 tyX7 tyX7_ok nmX7 hown hK hP hD hS hO_mo rfl rfl 14 (by decide) (hts (.fieldLink RX7 47 "LinClusterModel" "statusBytes" "[I") (by decide +kernel)) (fun _ h9 => h9) rfl hin rfl (by decide +kernel) rfl rfl (Nat.le_of_ble_eq_true rfl) rfl dX7_init_109 (fun H locs hP hD hS => ?_)
  have hp := hp.step (k := 14) (kd := 8) (n := 8) (by decide) (by decide) rfl rfl hq_q49
  generalize (zGn G46 q49 8 8) = G50 at hP hD hp
  generalize zpq (zSn S47 q49) mo 14 (some q49) = S51 at hP hD hp
  generalize va_up ad48 14 q49 = ad52 at hp
  have hO_mo := hp.1
  refine lv_aload_n hx hb dX7_init_112 rfl (lv_at hl 0 rfl) ?_
  refine lv_bipush (v := 8) hx hb dX7_init_113 (by decide) ?_
  refine znewai (n := 8) (N' := 8) hx hb (hts (.arrayClass .int) (by decide +kernel)) hK hP hD hS hA (by decide) (by decide) (by decide) (Nat.le_of_ble_eq_true rfl) (Nat.le_of_ble_eq_true rfl) dX7_init_115 (fun q53 H hq_q53 hP hD hS => ?_)
  have hO_mo := hp.1.gn (kd' := 8) (n := 8) hq_q53
  refine zputqF (ci := 7) (v := (some q53)) (ty := .array .int) (C := RX7) (T := TX7) (N := 42) hx hb hts hi7 tyX7 tyX7_ok nmX7 hown hK hP hD hS hO_mo rfl rfl 15 (by decide) (hts (.fieldLink RX7 50 "LinClusterModel" "statusBits" "[I") (by decide +kernel)) (fun _ h9 => h9) rfl hin rfl (by decide +kernel) rfl rfl (Nat.le_of_ble_eq_true rfl) rfl dX7_init_117 (fun H locs hP hD hS => ?_)
  have hp := hp.step (k := 15) (kd := 8) (n := 8) (by decide) (by decide) rfl rfl hq_q53
  generalize (zGn G50 q53 8 8) = G54 at hP hD hp
  generalize zpq (zSn S51 q53) mo 15 (some q53) = S55 at hP hD hp
  generalize va_up ad52 15 q53 = ad56 at hp
  have hO_mo := hp.1
  refine lv_aload_n hx hb dX7_init_120 rfl (lv_at hl 0 rfl) ?_
  refine lv_bipush (v := 8) hx hb dX7_init_121 (by decide) ?_
  refine znewai (n := 8) (N' := 8) hx hb (hts (.arrayClass .int) (by decide +kernel)) hK hP hD hS hA (by decide) (by decide) (by decide) (Nat.le_of_ble_eq_true rfl) (Nat.le_of_ble_eq_true rfl) dX7_init_123 (fun q57 H hq_q57 hP hD hS => ?_)
  have hO_mo := hp.1.gn (kd' := 8) (n := 8) hq_q57
  refine zputqF (ci := 7) (v := (some q57)) (ty := .array .int) (C := RX7) (T := TX7) (N := 42) hx hb hts hi7 tyX7 tyX7_ok nmX7 hown hK hP hD hS hO_mo rfl rfl 16 (by decide) (hts (.fieldLink RX7 53 "LinClusterModel" "at" "[I") (by decide +kernel)) (fun _ h9 => h9) rfl hin rfl (by decide +kernel) rfl rfl (Nat.le_of_ble_eq_true rfl) rfl dX7_init_125 (fun H locs hP hD hS => ?_)
  have hp := hp.step (k := 16) (kd := 8) (n := 8) (by decide) (by decide) rfl rfl hq_q57
  generalize (zGn G54 q57 8 8) = G58 at hP hD hp
  generalize zpq (zSn S55 q57) mo 16 (some q57) = S59 at hP hD hp
  generalize va_up ad56 16 q57 = ad60 at hp
  have hO_mo := hp.1
  refine lv_aload_n hx hb dX7_init_128 rfl (lv_at hl 0 rfl) ?_
  refine lv_bipush (v := 8) hx hb dX7_init_129 (by decide) ?_
  refine znewaz (n := 8) (N' := 8) hx hb (hts (.arrayClass .boolean) (by decide +kernel)) hK hP hD hS hA (by decide) (by decide) (by decide) (Nat.le_of_ble_eq_true rfl) (Nat.le_of_ble_eq_true rfl) dX7_init_131 (fun q61 H hq_q61 hP hD hS => ?_)
  have hO_mo := hp.1.gn (kd' := 10) (n := 8) hq_q61
  refine zputqF (ci := 7) (v := (some q61)) (ty := .array .boolean) (C := RX7) (T := TX7) (N := 42) hx hb hts hi7 tyX7 tyX7_ok nmX7 hown hK hP hD hS hO_mo rfl rfl 17 (by decide) (hts (.fieldLink RX7 56 "LinClusterModel" "errors" "[Z") (by decide +kernel)) (fun _ h9 => h9) rfl hin rfl (by decide +kernel) rfl rfl (Nat.le_of_ble_eq_true rfl) rfl dX7_init_133 (fun H locs hP hD hS => ?_)
  have hp := hp.step (k := 17) (kd := 10) (n := 8) (by decide) (by decide) rfl rfl hq_q61
  generalize (zGn G58 q61 10 8) = G62 at hP hD hp
  generalize zpq (zSn S59 q61) mo 17 (some q61) = S63 at hP hD hp
  generalize va_up ad60 17 q61 = ad64 at hp
  have hO_mo := hp.1
  refine lv_aload_n hx hb dX7_init_136 rfl (lv_at hl 0 rfl) ?_
  refine lv_bipush (v := 8) hx hb dX7_init_137 (by decide) ?_
  refine znewai (n := 8) (N' := 8) hx hb (hts (.arrayClass .int) (by decide +kernel)) hK hP hD hS hA (by decide) (by decide) (by decide) (Nat.le_of_ble_eq_true rfl) (Nat.le_of_ble_eq_true rfl) dX7_init_139 (fun q65 H hq_q65 hP hD hS => ?_)
  have hO_mo := hp.1.gn (kd' := 8) (n := 8) hq_q65
  refine zputqF (ci := 7) (v := (some q65)) (ty := .array .int) (C := RX7) (T := TX7) (N := 42) hx hb hts hi7 tyX7 tyX7_ok nmX7 hown hK hP hD hS hO_mo rfl rfl 18 (by decide) (hts (.fieldLink RX7 59 "LinClusterModel" "lost" "[I") (by decide +kernel)) (fun _ h9 => h9) rfl hin rfl (by decide +kernel) rfl rfl (Nat.le_of_ble_eq_true rfl) rfl dX7_init_141 (fun H locs hP hD hS => ?_)
  have hp := hp.step (k := 18) (kd := 8) (n := 8) (by decide) (by decide) rfl rfl hq_q65
  generalize (zGn G62 q65 8 8) = G66 at hP hD hp
  generalize zpq (zSn S63 q65) mo 18 (some q65) = S67 at hP hD hp
  generalize va_up ad64 18 q65 = ad68 at hp
  have hO_mo := hp.1
  refine lv_aload_n hx hb dX7_init_144 rfl (lv_at hl 0 rfl) ?_
  refine lv_bipush (v := 8) hx hb dX7_init_145 (by decide) ?_
  refine znewai (n := 8) (N' := 8) hx hb (hts (.arrayClass .int) (by decide +kernel)) hK hP hD hS hA (by decide) (by decide) (by decide) (Nat.le_of_ble_eq_true rfl) (Nat.le_of_ble_eq_true rfl) dX7_init_147 (fun q69 H hq_q69 hP hD hS => ?_)
  have hO_mo := hp.1.gn (kd' := 8) (n := 8) hq_q69
  refine zputqF (ci := 7) (v := (some q69)) (ty := .array .int) (C := RX7) (T := TX7) (N := 42) hx hb hts hi7 tyX7 tyX7_ok nmX7 hown hK hP hD hS hO_mo rfl rfl 19 (by decide) (hts (.fieldLink RX7 62 "LinClusterModel" "said" "[I") (by decide +kernel)) (fun _ h9 => h9) rfl hin rfl (by decide +kernel) rfl rfl (Nat.le_of_ble_eq_true rfl) rfl dX7_init_149 (fun H locs hP hD hS => ?_)
  have hp := hp.step (k := 19) (kd := 8) (n := 8) (by decide) (by decide) rfl rfl hq_q69
  generalize (zGn G66 q69 8 8) = G70 at hP hD hp
  generalize zpq (zSn S67 q69) mo 19 (some q69) = S71 at hP hD hp
  generalize va_up ad68 19 q69 = ad72 at hp
  have hO_mo := hp.1
  refine lv_aload_n hx hb dX7_init_152 rfl (lv_at hl 0 rfl) ?_
  refine lv_bipush (v := 8) hx hb dX7_init_153 (by decide) ?_
  refine znewai (n := 8) (N' := 8) hx hb (hts (.arrayClass .int) (by decide +kernel)) hK hP hD hS hA (by decide) (by decide) (by decide) (Nat.le_of_ble_eq_true rfl) (Nat.le_of_ble_eq_true rfl) dX7_init_155 (fun q73 H hq_q73 hP hD hS => ?_)
  have hO_mo := hp.1.gn (kd' := 8) (n := 8) hq_q73
  refine zputqF (ci := 7) (v := (some q73)) (ty := .array .int) (C := RX7) (T := TX7) (N := 42) hx hb hts hi7 tyX7 tyX7_ok nmX7 hown hK hP hD hS hO_mo rfl rfl 20 (by decide) (hts (.fieldLink RX7 65 "LinClusterModel" "taken" "[I") (by decide +kernel)) (fun _ h9 => h9) rfl hin rfl (by decide +kernel) rfl rfl (Nat.le_of_ble_eq_true rfl) rfl dX7_init_157 (fun H locs hP hD hS => ?_)
  have hp := hp.step (k := 20) (kd := 8) (n := 8) (by decide) (by decide) rfl rfl hq_q73
  generalize (zGn G70 q73 8 8) = G74 at hP hD hp
  generalize zpq (zSn S71 q73) mo 20 (some q73) = S75 at hP hD hp
  generalize va_up ad72 20 q73 = ad76 at hp
  have hO_mo := hp.1
  refine lv_aload_n hx hb dX7_init_160 rfl (lv_at hl 0 rfl) ?_
  refine lv_bipush (v := 8) hx hb dX7_init_161 (by decide) ?_
  refine znewai (n := 8) (N' := 8) hx hb (hts (.arrayClass .int) (by decide +kernel)) hK hP hD hS hA (by decide) (by decide) (by decide) (Nat.le_of_ble_eq_true rfl) (Nat.le_of_ble_eq_true rfl) dX7_init_163 (fun q77 H hq_q77 hP hD hS => ?_)
  have hO_mo := hp.1.gn (kd' := 8) (n := 8) hq_q77
  refine zputqF (ci := 7) (v := (some q77)) (ty := .array .int) (C := RX7) (T := TX7) (N := 42) hx hb hts hi7 tyX7 tyX7_ok nmX7 hown hK hP hD hS hO_mo rfl rfl 21 (by decide) (hts (.fieldLink RX7 68 "LinClusterModel" "errorCounts" "[I") (by decide +kernel)) (fun _ h9 => h9) rfl hin rfl (by decide +kernel) rfl rfl (Nat.le_of_ble_eq_true rfl) rfl dX7_init_165 (fun H locs hP hD hS => ?_)
  have hp := hp.step (k := 21) (kd := 8) (n := 8) (by decide) (by decide) rfl rfl hq_q77
  generalize (zGn G74 q77 8 8) = G78 at hP hD hp
  generalize zpq (zSn S75 q77) mo 21 (some q77) = S79 at hP hD hp
  generalize va_up ad76 21 q77 = ad80 at hp
  have hO_mo := hp.1
  refine lv_aload_n hx hb dX7_init_168 rfl (lv_at hl 0 rfl) ?_
  refine lv_bipush (v := 8) hx hb dX7_init_169 (by decide) ?_
  refine znewai (n := 8) (N' := 8) hx hb (hts (.arrayClass .int) (by decide +kernel)) hK hP hD hS hA (by decide) (by decide) (by decide) (Nat.le_of_ble_eq_true rfl) (Nat.le_of_ble_eq_true rfl) dX7_init_171 (fun q81 H hq_q81 hP hD hS => ?_)
  have hO_mo := hp.1.gn (kd' := 8) (n := 8) hq_q81
  refine zputqF (ci := 7) (v := (some q81)) (ty := .array .int) (C := RX7) (T := TX7) (N := 42) hx hb hts hi7 tyX7 tyX7_ok nmX7 hown hK hP hD hS hO_mo rfl rfl 22 (by decide) (hts (.fieldLink RX7 71 "LinClusterModel" "zeros" "[I") (by decide +kernel)) (fun _ h9 => h9) rfl hin rfl (by decide +kernel) rfl rfl (Nat.le_of_ble_eq_true rfl) rfl dX7_init_173 (fun H locs hP hD hS => ?_)
  have hp := hp.step (k := 22) (kd := 8) (n := 8) (by decide) (by decide) rfl rfl hq_q81
  generalize (zGn G78 q81 8 8) = G82 at hP hD hp
  generalize zpq (zSn S79 q81) mo 22 (some q81) = S83 at hP hD hp
  generalize va_up ad80 22 q81 = ad84 at hp
  have hO_mo := hp.1
  refine lv_aload_n hx hb dX7_init_176 rfl (lv_at hl 0 rfl) ?_
  refine lv_bipush (v := 8) hx hb dX7_init_177 (by decide) ?_
  refine znewai (n := 8) (N' := 8) hx hb (hts (.arrayClass .int) (by decide +kernel)) hK hP hD hS hA (by decide) (by decide) (by decide) (Nat.le_of_ble_eq_true rfl) (Nat.le_of_ble_eq_true rfl) dX7_init_179 (fun q85 H hq_q85 hP hD hS => ?_)
  have hO_mo := hp.1.gn (kd' := 8) (n := 8) hq_q85
  refine zputqF (ci := 7) (v := (some q85)) (ty := .array .int) (C := RX7) (T := TX7) (N := 42) hx hb hts hi7 tyX7 tyX7_ok nmX7 hown hK hP hD hS hO_mo rfl rfl 23 (by decide) (hts (.fieldLink RX7 74 "LinClusterModel" "ones" "[I") (by decide +kernel)) (fun _ h9 => h9) rfl hin rfl (by decide +kernel) rfl rfl (Nat.le_of_ble_eq_true rfl) rfl dX7_init_181 (fun H locs hP hD hS => ?_)
  have hp := hp.step (k := 23) (kd := 8) (n := 8) (by decide) (by decide) rfl rfl hq_q85
  generalize (zGn G82 q85 8 8) = G86 at hP hD hp
  generalize zpq (zSn S83 q85) mo 23 (some q85) = S87 at hP hD hp
  generalize va_up ad84 23 q85 = ad88 at hp
  have hO_mo := hp.1
  refine lv_aload_n hx hb dX7_init_184 rfl (lv_at hl 0 rfl) ?_
  refine lv_bipush (v := 8) hx hb dX7_init_185 (by decide) ?_
  refine znewai (n := 8) (N' := 8) hx hb (hts (.arrayClass .int) (by decide +kernel)) hK hP hD hS hA (by decide) (by decide) (by decide) (Nat.le_of_ble_eq_true rfl) (Nat.le_of_ble_eq_true rfl) dX7_init_187 (fun q89 H hq_q89 hP hD hS => ?_)
  have hO_mo := hp.1.gn (kd' := 8) (n := 8) hq_q89
  refine zputqF (ci := 7) (v := (some q89)) (ty := .array .int) (C := RX7) (T := TX7) (N := 42) hx hb hts hi7 tyX7 tyX7_ok nmX7 hown hK hP hD hS hO_mo rfl rfl 24 (by decide) (hts (.fieldLink RX7 77 "LinClusterModel" "waking" "[I") (by decide +kernel)) (fun _ h9 => h9) rfl hin rfl (by decide +kernel) rfl rfl (Nat.le_of_ble_eq_true rfl) rfl dX7_init_189 (fun H locs hP hD hS => ?_)
  have hp := hp.step (k := 24) (kd := 8) (n := 8) (by decide) (by decide) rfl rfl hq_q89
  generalize (zGn G86 q89 8 8) = G90 at hP hD hp
  generalize zpq (zSn S87 q89) mo 24 (some q89) = S91 at hP hD hp
  generalize va_up ad88 24 q89 = ad92 at hp
  have hO_mo := hp.1
  refine lv_aload_n hx hb dX7_init_192 rfl (lv_at hl 0 rfl) ?_
  refine lv_bipush (v := 8) hx hb dX7_init_193 (by decide) ?_
  refine znewai (n := 8) (N' := 8) hx hb (hts (.arrayClass .int) (by decide +kernel)) hK hP hD hS hA (by decide) (by decide) (by decide) (Nat.le_of_ble_eq_true rfl) (Nat.le_of_ble_eq_true rfl) dX7_init_195 (fun q93 H hq_q93 hP hD hS => ?_)
  have hO_mo := hp.1.gn (kd' := 8) (n := 8) hq_q93
  refine zputqF (ci := 7) (v := (some q93)) (ty := .array .int) (C := RX7) (T := TX7) (N := 42) hx hb hts hi7 tyX7 tyX7_ok nmX7 hown hK hP hD hS hO_mo rfl rfl 25 (by decide) (hts (.fieldLink RX7 80 "LinClusterModel" "bitsSoFar" "[I") (by decide +kernel)) (fun _ h9 => h9) rfl hin rfl (by decide +kernel) rfl rfl (Nat.le_of_ble_eq_true rfl) rfl dX7_init_197 (fun H locs hP hD hS => ?_)
  have hp := hp.step (k := 25) (kd := 8) (n := 8) (by decide) (by decide) rfl rfl hq_q93
  generalize (zGn G90 q93 8 8) = G94 at hP hD hp
  generalize zpq (zSn S91 q93) mo 25 (some q93) = S95 at hP hD hp
  generalize va_up ad92 25 q93 = ad96 at hp
  have hO_mo := hp.1
  refine lv_aload_n hx hb dX7_init_200 rfl (lv_at hl 0 rfl) ?_
  refine lv_bipush (v := 8) hx hb dX7_init_201 (by decide) ?_
  refine znewai (n := 8) (N' := 8) hx hb (hts (.arrayClass .int) (by decide +kernel)) hK hP hD hS hA (by decide) (by decide) (by decide) (Nat.le_of_ble_eq_true rfl) (Nat.le_of_ble_eq_true rfl) dX7_init_203 (fun q97 H hq_q97 hP hD hS => ?_)
  have hO_mo := hp.1.gn (kd' := 8) (n := 8) hq_q97
  refine zputqF (ci := 7) (v := (some q97)) (ty := .array .int) (C := RX7) (T := TX7) (N := 42) hx hb hts hi7 tyX7 tyX7_ok nmX7 hown hK hP hD hS hO_mo rfl rfl 26 (by decide) (hts (.fieldLink RX7 83 "LinClusterModel" "values" "[I") (by decide +kernel)) (fun _ h9 => h9) rfl hin rfl (by decide +kernel) rfl rfl (Nat.le_of_ble_eq_true rfl) rfl dX7_init_205 (fun H locs hP hD hS => ?_)
  have hp := hp.step (k := 26) (kd := 8) (n := 8) (by decide) (by decide) rfl rfl hq_q97
  generalize (zGn G94 q97 8 8) = G98 at hP hD hp
  generalize zpq (zSn S95 q97) mo 26 (some q97) = S99 at hP hD hp
  generalize va_up ad96 26 q97 = ad100 at hp
  have hO_mo := hp.1
  refine lv_aload_n hx hb dX7_init_208 rfl (lv_at hl 0 rfl) ?_
  refine lv_bipush (v := 8) hx hb dX7_init_209 (by decide) ?_
  refine znewai (n := 8) (N' := 8) hx hb (hts (.arrayClass .int) (by decide +kernel)) hK hP hD hS hA (by decide) (by decide) (by decide) (Nat.le_of_ble_eq_true rfl) (Nat.le_of_ble_eq_true rfl) dX7_init_211 (fun q101 H hq_q101 hP hD hS => ?_)
  have hO_mo := hp.1.gn (kd' := 8) (n := 8) hq_q101
  refine zputqF (ci := 7) (v := (some q101)) (ty := .array .int) (C := RX7) (T := TX7) (N := 42) hx hb hts hi7 tyX7 tyX7_ok nmX7 hown hK hP hD hS hO_mo rfl rfl 27 (by decide) (hts (.fieldLink RX7 86 "LinClusterModel" "characters" "[I") (by decide +kernel)) (fun _ h9 => h9) rfl hin rfl (by decide +kernel) rfl rfl (Nat.le_of_ble_eq_true rfl) rfl dX7_init_213 (fun H locs hP hD hS => ?_)
  have hp := hp.step (k := 27) (kd := 8) (n := 8) (by decide) (by decide) rfl rfl hq_q101
  generalize (zGn G98 q101 8 8) = G102 at hP hD hp
  generalize zpq (zSn S99 q101) mo 27 (some q101) = S103 at hP hD hp
  generalize va_up ad100 27 q101 = ad104 at hp
  have hO_mo := hp.1
  refine lv_aload_n hx hb dX7_init_216 rfl (lv_at hl 0 rfl) ?_
  refine lv_bipush (v := 8) hx hb dX7_init_217 (by decide) ?_
  refine znewai (n := 8) (N' := 8) hx hb (hts (.arrayClass .int) (by decide +kernel)) hK hP hD hS hA (by decide) (by decide) (by decide) (Nat.le_of_ble_eq_true rfl) (Nat.le_of_ble_eq_true rfl) dX7_init_219 (fun q105 H hq_q105 hP hD hS => ?_)
  have hO_mo := hp.1.gn (kd' := 8) (n := 8) hq_q105
  refine zputqF (ci := 7) (v := (some q105)) (ty := .array .int) (C := RX7) (T := TX7) (N := 42) hx hb hts hi7 tyX7 tyX7_ok nmX7 hown hK hP hD hS hO_mo rfl rfl 28 (by decide) (hts (.fieldLink RX7 89 "LinClusterModel" "idAt" "[I") (by decide +kernel)) (fun _ h9 => h9) rfl hin rfl (by decide +kernel) rfl rfl (Nat.le_of_ble_eq_true rfl) rfl dX7_init_221 (fun H locs hP hD hS => ?_)
  have hp := hp.step (k := 28) (kd := 8) (n := 8) (by decide) (by decide) rfl rfl hq_q105
  generalize (zGn G102 q105 8 8) = G106 at hP hD hp
  generalize zpq (zSn S103 q105) mo 28 (some q105) = S107 at hP hD hp
  generalize va_up ad104 28 q105 = ad108 at hp
  have hO_mo := hp.1
  refine lv_aload_n hx hb dX7_init_224 rfl (lv_at hl 0 rfl) ?_
  refine lv_sipush (v := 128) hx hb dX7_init_225 (by decide) ?_
  refine znewai (n := 128) (N' := 128) hx hb (hts (.arrayClass .int) (by decide +kernel)) hK hP hD hS hA (by decide) (by decide) (by decide) (Nat.le_of_ble_eq_true rfl) (Nat.le_of_ble_eq_true rfl) dX7_init_228 (fun q109 H hq_q109 hP hD hS => ?_)
  have hO_mo := hp.1.gn (kd' := 8) (n := 128) hq_q109
  refine zputqF (ci := 7) (v := (some q109)) (ty := .array .int) (C := RX7) (T := TX7) (N := 42) hx hb hts hi7 tyX7 tyX7_ok nmX7 hown hK hP hD hS hO_mo rfl rfl 29 (by decide) (hts (.fieldLink RX7 92 "LinClusterModel" "row" "[I") (by decide +kernel)) (fun _ h9 => h9) rfl hin rfl (by decide +kernel) rfl rfl (Nat.le_of_ble_eq_true rfl) rfl dX7_init_230 (fun H locs hP hD hS => ?_)
  have hp := hp.step (k := 29) (kd := 8) (n := 128) (by decide) (by decide) rfl rfl hq_q109
  generalize (zGn G106 q109 8 128) = G110 at hP hD hp
  generalize zpq (zSn S107 q109) mo 29 (some q109) = S111 at hP hD hp
  generalize va_up ad108 29 q109 = ad112 at hp
  have hO_mo := hp.1
  refine lv_aload_n hx hb dX7_init_233 rfl (lv_at hl 0 rfl) ?_
  refine lv_bipush (v := 8) hx hb dX7_init_234 (by decide) ?_
  refine znewai (n := 8) (N' := 8) hx hb (hts (.arrayClass .int) (by decide +kernel)) hK hP hD hS hA (by decide) (by decide) (by decide) (Nat.le_of_ble_eq_true rfl) (Nat.le_of_ble_eq_true rfl) dX7_init_236 (fun q113 H hq_q113 hP hD hS => ?_)
  have hO_mo := hp.1.gn (kd' := 8) (n := 8) hq_q113
  refine zputqF (ci := 7) (v := (some q113)) (ty := .array .int) (C := RX7) (T := TX7) (N := 42) hx hb hts hi7 tyX7 tyX7_ok nmX7 hown hK hP hD hS hO_mo rfl rfl 30 (by decide) (hts (.fieldLink RX7 95 "LinClusterModel" "saidBits" "[I") (by decide +kernel)) (fun _ h9 => h9) rfl hin rfl (by decide +kernel) rfl rfl (Nat.le_of_ble_eq_true rfl) rfl dX7_init_238 (fun H locs hP hD hS => ?_)
  have hp := hp.step (k := 30) (kd := 8) (n := 8) (by decide) (by decide) rfl rfl hq_q113
  generalize (zGn G110 q113 8 8) = G114 at hP hD hp
  generalize zpq (zSn S111 q113) mo 30 (some q113) = S115 at hP hD hp
  generalize va_up ad112 30 q113 = ad116 at hp
  have hO_mo := hp.1
  refine lv_aload_n hx hb dX7_init_241 rfl (lv_at hl 0 rfl) ?_
  refine lv_bipush (v := 8) hx hb dX7_init_242 (by decide) ?_
  refine znewai (n := 8) (N' := 8) hx hb (hts (.arrayClass .int) (by decide +kernel)) hK hP hD hS hA (by decide) (by decide) (by decide) (Nat.le_of_ble_eq_true rfl) (Nat.le_of_ble_eq_true rfl) dX7_init_244 (fun q117 H hq_q117 hP hD hS => ?_)
  have hO_mo := hp.1.gn (kd' := 8) (n := 8) hq_q117
  refine zputqF (ci := 7) (v := (some q117)) (ty := .array .int) (C := RX7) (T := TX7) (N := 42) hx hb hts hi7 tyX7 tyX7_ok nmX7 hown hK hP hD hS hO_mo rfl rfl 31 (by decide) (hts (.fieldLink RX7 98 "LinClusterModel" "before" "[I") (by decide +kernel)) (fun _ h9 => h9) rfl hin rfl (by decide +kernel) rfl rfl (Nat.le_of_ble_eq_true rfl) rfl dX7_init_246 (fun H locs hP hD hS => ?_)
  have hp := hp.step (k := 31) (kd := 8) (n := 8) (by decide) (by decide) rfl rfl hq_q117
  generalize (zGn G114 q117 8 8) = G118 at hP hD hp
  generalize zpq (zSn S115 q117) mo 31 (some q117) = S119 at hP hD hp
  generalize va_up ad116 31 q117 = ad120 at hp
  have hO_mo := hp.1
  refine lv_aload_n hx hb dX7_init_249 rfl (lv_at hl 0 rfl) ?_
  refine lv_bipush (v := 8) hx hb dX7_init_250 (by decide) ?_
  refine znewai (n := 8) (N' := 8) hx hb (hts (.arrayClass .int) (by decide +kernel)) hK hP hD hS hA (by decide) (by decide) (by decide) (Nat.le_of_ble_eq_true rfl) (Nat.le_of_ble_eq_true rfl) dX7_init_252 (fun q121 H hq_q121 hP hD hS => ?_)
  have hO_mo := hp.1.gn (kd' := 8) (n := 8) hq_q121
  refine zputqF (ci := 7) (v := (some q121)) (ty := .array .int) (C := RX7) (T := TX7) (N := 42) hx hb hts hi7 tyX7 tyX7_ok nmX7 hown hK hP hD hS hO_mo rfl rfl 32 (by decide) (hts (.fieldLink RX7 101 "LinClusterModel" "ticks" "[I") (by decide +kernel)) (fun _ h9 => h9) rfl hin rfl (by decide +kernel) rfl rfl (Nat.le_of_ble_eq_true rfl) rfl dX7_init_254 (fun H locs hP hD hS => ?_)
  have hp := hp.step (k := 32) (kd := 8) (n := 8) (by decide) (by decide) rfl rfl hq_q121
  generalize (zGn G118 q121 8 8) = G122 at hP hD hp
  generalize zpq (zSn S119 q121) mo 32 (some q121) = S123 at hP hD hp
  generalize va_up ad120 32 q121 = ad124 at hp
  have hO_mo := hp.1
  refine lv_aload_n hx hb dX7_init_257 rfl (lv_at hl 0 rfl) ?_
  refine lv_iconst (v := (-1)) hx hb dX7_init_258 (by decide) ?_
  refine zputi (ci := 7) (v := (-1)) (ty := .int) (C := RX7) (T := TX7) (N := 42) hx hb hts hi7 tyX7 tyX7_ok nmX7 hown hK hP hD hS hO_mo rfl rfl 34 (by decide) (hts (.fieldLink RX7 104 "LinClusterModel" "slot" "I") (by decide +kernel)) (fun _ h9 => h9) rfl (by decide +kernel) rfl rfl (Nat.le_of_ble_eq_true rfl) rfl dX7_init_259 (fun H locs hP hD hS => ?_)
  have hp := hp.fld 34 (-1)
  generalize zpi S123 mo 34 (-1) = S125 at hP hD hp
  refine lv_aload_n hx hb dX7_init_262 rfl (lv_at hl 0 rfl) ?_
  refine lv_bipush (v := 64) hx hb dX7_init_263 (by decide) ?_
  refine znewai (n := 64) (N' := 64) hx hb (hts (.arrayClass .int) (by decide +kernel)) hK hP hD hS hA (by decide) (by decide) (by decide) (Nat.le_of_ble_eq_true rfl) (Nat.le_of_ble_eq_true rfl) dX7_init_265 (fun q126 H hq_q126 hP hD hS => ?_)
  have hO_mo := hp.1.gn (kd' := 8) (n := 64) hq_q126
  refine zputqF (ci := 7) (v := (some q126)) (ty := .array .int) (C := RX7) (T := TX7) (N := 42) hx hb hts hi7 tyX7 tyX7_ok nmX7 hown hK hP hD hS hO_mo rfl rfl 38 (by decide) (hts (.fieldLink RX7 108 "LinClusterModel" "lines" "[I") (by decide +kernel)) (fun _ h9 => h9) rfl hin rfl (by decide +kernel) rfl rfl (Nat.le_of_ble_eq_true rfl) rfl dX7_init_267 (fun H locs hP hD hS => ?_)
  have hp := hp.step (k := 38) (kd := 8) (n := 64) (by decide) (by decide) rfl rfl hq_q126
  generalize (zGn G122 q126 8 64) = G127 at hP hD hp
  generalize zpq (zSn S125 q126) mo 38 (some q126) = S128 at hP hD hp
  generalize va_up ad124 38 q126 = ad129 at hp
  have hO_mo := hp.1
  refine lv_aload_n hx hb dX7_init_270 rfl (lv_at hl 0 rfl) ?_
  refine lv_sipush (v := 200) hx hb dX7_init_271 (by decide) ?_
  refine znewai (n := 200) (N' := 200) hx hb (hts (.arrayClass .int) (by decide +kernel)) hK hP hD hS hA (by decide) (by decide) (by decide) (Nat.le_of_ble_eq_true rfl) (Nat.le_of_ble_eq_true rfl) dX7_init_274 (fun q130 H hq_q130 hP hD hS => ?_)
  have hO_mo := hp.1.gn (kd' := 8) (n := 200) hq_q130
  refine zputqF (ci := 7) (v := (some q130)) (ty := .array .int) (C := RX7) (T := TX7) (N := 42) hx hb hts hi7 tyX7 tyX7_ok nmX7 hown hK hP hD hS hO_mo rfl rfl 39 (by decide) (hts (.fieldLink RX7 111 "LinClusterModel" "disturbedAt" "[I") (by decide +kernel)) (fun _ h9 => h9) rfl hin rfl (by decide +kernel) rfl rfl (Nat.le_of_ble_eq_true rfl) rfl dX7_init_276 (fun H locs hP hD hS => ?_)
  have hp := hp.step (k := 39) (kd := 8) (n := 200) (by decide) (by decide) rfl rfl hq_q130
  generalize (zGn G127 q130 8 200) = G131 at hP hD hp
  generalize zpq (zSn S128 q130) mo 39 (some q130) = S132 at hP hD hp
  generalize va_up ad129 39 q130 = ad133 at hp
  have hO_mo := hp.1
  refine lv_aload_n hx hb dX7_init_279 rfl (lv_at hl 0 rfl) ?_
  refine lv_sipush (v := 200) hx hb dX7_init_280 (by decide) ?_
  refine znewai (n := 200) (N' := 200) hx hb (hts (.arrayClass .int) (by decide +kernel)) hK hP hD hS hA (by decide) (by decide) (by decide) (Nat.le_of_ble_eq_true rfl) (Nat.le_of_ble_eq_true rfl) dX7_init_283 (fun q134 H hq_q134 hP hD hS => ?_)
  have hO_mo := hp.1.gn (kd' := 8) (n := 200) hq_q134
  refine zputqF (ci := 7) (v := (some q134)) (ty := .array .int) (C := RX7) (T := TX7) (N := 42) hx hb hts hi7 tyX7 tyX7_ok nmX7 hown hK hP hD hS hO_mo rfl rfl 40 (by decide) (hts (.fieldLink RX7 114 "LinClusterModel" "disturbedTo" "[I") (by decide +kernel)) (fun _ h9 => h9) rfl hin rfl (by decide +kernel) rfl rfl (Nat.le_of_ble_eq_true rfl) rfl dX7_init_285 (fun H locs hP hD hS => ?_)
  have hp := hp.step (k := 40) (kd := 8) (n := 200) (by decide) (by decide) rfl rfl hq_q134
  generalize (zGn G131 q134 8 200) = G135 at hP hD hp
  generalize zpq (zSn S132 q134) mo 40 (some q134) = S136 at hP hD hp
  generalize va_up ad133 40 q134 = ad137 at hp
  have hO_mo := hp.1
  refine lv_iconst (v := 0) hx hb dX7_init_288 (by decide) ?_
  refine lv_istore_n (lv' := [(1, .int 0), (0, .ref mo)]) hx hb dX7_init_289 rfl hl (by decide) rfl (fun ls hl => ?_)
  have hM := hp.zm zmN_lt
  have hst := zC.refl mo ad137 [13, 16, 38] [] S136
  have hat : zAt ad137 0 S136 := fun j hj => absurd hj (by omega)
  refine zloopW 8 (fun k9 (_ : Unit) => [(0, .ref mo), (1, .int (nI k9))]) (fun k9 S' => zC mo ad137 [13, 16, 38] [] S136 S' ∧ zAt ad137 k9 S') ?_ ?_ 8 0 () S136 H locs ls rfl ⟨hst, hat⟩ hP hD hS (lv_sub hl [1, 0] rfl)
  · intro x9 S290_ H locs ls hJ9 hP hD hS hl
    obtain ⟨hst, hat⟩ := hJ9
    have hl : lv_has ls 2 [(0, .ref mo), (1, .int (nI 8))] := hl
    refine lv_iload_n hx hb dX7_init_290 rfl (lv_at hl 1 rfl) ?_
    refine lv_bipush (v := 8) hx hb dX7_init_291 (by decide) ?_
    refine lv_icmp_ge (tgt := 316) hx hb dX7_init_293 (by decide) (fun c138 => ?_) (fun c138 => ?_)
    · skip
      refine lv_iconst (v := 0) hx hb dX7_init_316 (by decide) ?_
      refine lv_istore_n (lv' := [(1, .int 0), (0, .ref mo)]) hx hb dX7_init_317 rfl hl (by decide) rfl (fun ls hl => ?_)
      refine zloopW 64 (fun k9 (_ : Unit) => [(0, .ref mo), (1, .int (nI k9))]) (fun k9 S' => zC mo ad137 [13, 16, 38] [] S136 S' ∧ zAt ad137 8 S') ?_ ?_ 64 0 () S290_ H locs ls rfl ⟨hst, hat⟩ hP hD hS (lv_sub hl [1, 0] rfl)
      · intro x9 S318_ H locs ls hJ9 hP hD hS hl
        obtain ⟨hst, hat⟩ := hJ9
        have hl : lv_has ls 2 [(0, .ref mo), (1, .int (nI 64))] := hl
        refine lv_iload_n hx hb dX7_init_318 rfl (lv_at hl 1 rfl) ?_
        refine lv_bipush (v := 64) hx hb dX7_init_319 (by decide) ?_
        refine lv_icmp_ge (tgt := 337) hx hb dX7_init_321 (by decide) (fun c139 => ?_) (fun c139 => ?_)
        · skip
          refine W.widen (k := 34) (n := 6488) (Nat.le_of_ble_eq_true rfl) (Nat.le_of_ble_eq_true rfl) ?_
          exact W.vret hx hb hr (fun t ht hW => ⟨⟨(G135, S318_), rfl, ⟨ad137, zMi.of hp hst hat⟩, by rw [ht]; exact hP, va_K.moved hW.alike hK, hD⟩, hS.F ht⟩) hS.2.2 dX7_init_337
        · exact absurd (nI_le (a := 64) (b := 64) (Nat.le_refl _) (by omega)) c139
      · intro n8 k318 x9 S318_ H locs ls hk9 ih hJ9 hP hD hS hl
        obtain ⟨hst, hat⟩ := hJ9
        have hl : lv_has ls 2 [(0, .ref mo), (1, .int (nI k318))] := hl
        refine lv_iload_n hx hb dX7_init_318 rfl (lv_at hl 1 rfl) ?_
        refine lv_bipush (v := 64) hx hb dX7_init_319 (by decide) ?_
        refine lv_icmp_ge (tgt := 337) hx hb dX7_init_321 (by decide) (fun c140 => ?_) (fun c140 => ?_)
        · exact absurd c140 (nI_ge (a := k318) (b := 64) (by omega) (by omega))
        · skip
          refine lv_aload_n hx hb dX7_init_324 rfl (lv_at hl 0 rfl) ?_
          refine zget (ci := 7) (C := RX7) (T := TX7) (N := 42) hx hb hts hi7 hown hK hP hM.1 rfl rfl 38 (by decide) (hts (.fieldLink RX7 108 "LinClusterModel" "lines" "[I") (by decide +kernel)) (fun _ h9 => h9) (v := .ref (ad137 38)) (congrArg (fun z => some (va_rf z)) (((hM.eq hst.1).2.1 38 (by decide)).1)) dX7_init_325 ?_
          refine lv_iload_n hx hb dX7_init_328 rfl (lv_at hl 1 rfl) ?_
          refine lv_iconst (v := 1) hx hb dX7_init_329 (by decide) ?_
          refine ziast (x := 1) hx hb hK hP hD hS (hM.2.1 38 (by decide)).2.1 (show G135.2.2 (ad137 38) = 64 from (hM.2.1 38 (by decide)).2.2) (vp_in_nI (n := k318) (N := 64) (by omega) (by omega)) dX7_init_330 (fun H locs hP hD hS => ?_)
          rw [nI_clamp (n := k318) (by omega)] at hP hD
          have hst := zC.pa hM hst (k := 38) (by decide) (by decide) k318 1
          have hat := hat.off hM S318_ (k := 38) (by decide) (by decide) k318 1
          obtain ⟨v141, ev141⟩ : ∃ y : Int32, y = (nI k318) + 1 := ⟨_, rfl⟩
          refine lv_iinc (v := v141) (lv' := [(1, .int v141), (0, .ref mo)]) hx hb dX7_init_331 hl (k := 1) rfl (by rw [ev141]; rfl) (by decide) rfl (fun ls hl => ?_)
          refine lv_goto (tgt := 318) hx hb dX7_init_334 (by decide) ?_
          have e9 : v141 = nI (k318 + 1) := by rw [ev141]; exact nI_1 k318
          rw [e9] at hl
          exact ih () (zpi S318_ (ad137 38) k318 1) H locs ls ⟨hst, hat⟩ hP hD hS (lv_sub hl [1, 0] rfl)
    · exact absurd (nI_le (a := 8) (b := 8) (Nat.le_refl _) (by omega)) c138
  · intro n8 k290 x9 S290_ H locs ls hk9 ih hJ9 hP hD hS hl
    obtain ⟨hst, hat⟩ := hJ9
    have hl : lv_has ls 2 [(0, .ref mo), (1, .int (nI k290))] := hl
    refine lv_iload_n hx hb dX7_init_290 rfl (lv_at hl 1 rfl) ?_
    refine lv_bipush (v := 8) hx hb dX7_init_291 (by decide) ?_
    refine lv_icmp_ge (tgt := 316) hx hb dX7_init_293 (by decide) (fun c142 => ?_) (fun c142 => ?_)
    · exact absurd c142 (nI_ge (a := k290) (b := 8) (by omega) (by omega))
    · skip
      refine lv_aload_n hx hb dX7_init_296 rfl (lv_at hl 0 rfl) ?_
      refine zget (ci := 7) (C := RX7) (T := TX7) (N := 42) hx hb hts hi7 hown hK hP hM.1 rfl rfl 13 (by decide) (hts (.fieldLink RX7 44 "LinClusterModel" "statusIds" "[I") (by decide +kernel)) (fun _ h9 => h9) (v := .ref (ad137 13)) (congrArg (fun z => some (va_rf z)) (((hM.eq hst.1).2.1 13 (by decide)).1)) dX7_init_297 ?_
      refine lv_iload_n hx hb dX7_init_300 rfl (lv_at hl 1 rfl) ?_
      refine lv_iconst (v := (-1)) hx hb dX7_init_301 (by decide) ?_
      refine ziast (x := (-1)) hx hb hK hP hD hS (hM.2.1 13 (by decide)).2.1 (show G135.2.2 (ad137 13) = 8 from (hM.2.1 13 (by decide)).2.2) (vp_in_nI (n := k290) (N := 8) (by omega) (by omega)) dX7_init_302 (fun H locs hP hD hS => ?_)
      rw [nI_clamp (n := k290) (by omega)] at hP hD
      have hst := zC.pa hM hst (k := 13) (by decide) (by decide) k290 (-1)
      have hat := hat.off hM S290_ (k := 13) (by decide) (by decide) k290 (-1)
      refine lv_aload_n hx hb dX7_init_303 rfl (lv_at hl 0 rfl) ?_
      refine zget (ci := 7) (C := RX7) (T := TX7) (N := 42) hx hb hts hi7 hown hK hP hM.1 rfl rfl 16 (by decide) (hts (.fieldLink RX7 53 "LinClusterModel" "at" "[I") (by decide +kernel)) (fun _ h9 => h9) (v := .ref (ad137 16)) (congrArg (fun z => some (va_rf z)) (((hM.eq hst.1).2.1 16 (by decide)).1)) dX7_init_304 ?_
      refine lv_iload_n hx hb dX7_init_307 rfl (lv_at hl 1 rfl) ?_
      refine lv_iconst (v := 1) hx hb dX7_init_308 (by decide) ?_
      refine ziast (x := 1) hx hb hK hP hD hS (hM.2.1 16 (by decide)).2.1 (show G135.2.2 (ad137 16) = 8 from (hM.2.1 16 (by decide)).2.2) (vp_in_nI (n := k290) (N := 8) (by omega) (by omega)) dX7_init_309 (fun H locs hP hD hS => ?_)
      rw [nI_clamp (n := k290) (by omega)] at hP hD
      have hst := zC.pa hM hst (k := 16) (by decide) (by decide) k290 1
      have hat := zAt1 hat (zpi S290_ (ad137 13) k290 (-1))
      obtain ⟨v143, ev143⟩ : ∃ y : Int32, y = (nI k290) + 1 := ⟨_, rfl⟩
      refine lv_iinc (v := v143) (lv' := [(1, .int v143), (0, .ref mo)]) hx hb dX7_init_310 hl (k := 1) rfl (by rw [ev143]; rfl) (by decide) rfl (fun ls hl => ?_)
      refine lv_goto (tgt := 290) hx hb dX7_init_313 (by decide) ?_
      have e9 : v143 = nI (k290 + 1) := by rw [ev143]; exact nI_1 k290
      rw [e9] at hl
      exact ih () (zpi (zpi S290_ (ad137 13) k290 (-1)) (ad137 16) k290 1) H locs ls ⟨hst, hat⟩ hP hD hS (lv_sub hl [1, 0] rfl)
