theorem zcv {v a b : Int32} (h : a.toInt + 1 = b.toInt) : a < v ↔ b ≤ v := by
  rw [Int32.lt_iff_toInt_lt, Int32.le_iff_toInt_le]; omega
theorem zin7n {r v : Int32} (h : (r = 1 ∧ ¬ v < 0 ∧ ¬ 7 < v) ∨ (r = 0 ∧ (v < 0 ∨ 7 < v))) (c : ¬ r = 0) : ∃ j : Nat, j < 8 ∧ v = nI j := by
  rcases h with h | h
  · exact vp_in_of (zin (M := 8) (k := 8) (by decide) h.2.1 (fun z => h.2.2 ((zcv (a := 7) (b := 8) (by decide)).mpr z))) (by decide)
  · exact absurd h.1 c
theorem zin7b {r v : Int32} (h : (r = 1 ∧ ¬ v < 0 ∧ ¬ 7 < v) ∨ (r = 0 ∧ (v < 0 ∨ 7 < v))) (c : r = 0) : v < 0 ∨ 8 ≤ v := by
  rcases h with h | h
  · exact absurd (h.1.symm.trans c) (by decide)
  · exact h.2.imp id (zcv (a := 7) (b := 8) (by decide)).mp
theorem zii1 {r v a b : Int32} (h : (r = 1 ∧ ¬ v < a ∧ ¬ b < v) ∨ (r = 0 ∧ (v < a ∨ b < v))) (c : ¬ r = 0) : ¬ v < a ∧ ¬ b < v := h.elim (fun q => q.2) (fun q => absurd q.1 c)
theorem zii0 {r v a b : Int32} (h : (r = 1 ∧ ¬ v < a ∧ ¬ b < v) ∨ (r = 0 ∧ (v < a ∨ b < v))) (c : r = 0) : v < a ∨ b < v := h.elim (fun q => absurd (q.1.symm.trans c) (by decide)) (fun q => q.2)
theorem zfr1 {r id : Int32} {f : Nat → Int32} (h : (r = 1 ∧ ∃ j, j < 62 ∧ id = nI j ∧ ¬ f j = 0) ∨ (r = 0 ∧ ((id < 0 ∨ 61 < id) ∨ ∃ j, j < 62 ∧ id = nI j ∧ f j = 0))) (c : ¬ r = 0) : ∃ j : Nat, j < 62 ∧ id = nI j ∧ ¬ f j = 0 := h.elim (fun q => q.2) (fun q => absurd q.1 c)
theorem zfr0 {r id : Int32} {f : Nat → Int32} (h : (r = 1 ∧ ∃ j, j < 62 ∧ id = nI j ∧ ¬ f j = 0) ∨ (r = 0 ∧ ((id < 0 ∨ 61 < id) ∨ ∃ j, j < 62 ∧ id = nI j ∧ f j = 0))) (c : r = 0) : (id < 0 ∨ 61 < id) ∨ ∃ j, j < 62 ∧ id = nI j ∧ f j = 0 := h.elim (fun q => absurd (q.1.symm.trans c) (by decide)) (fun q => q.2)
/-- the reference's frame of an ID: length and publisher, if it is there -/
def zmo (S : zS) (ad : Nat → Nat) (id : Int32) (q : Option (Int32 × Int32)) : Prop := (∃ j, j < 62 ∧ id = nI j ∧ ((S.1 (ad 1) j = 0 ∧ q = none) ∨ (¬ S.1 (ad 1) j = 0 ∧ q = some (S.1 (ad 2) j, S.1 (ad 3) j)))) ∨ ((id < 0 ∨ 62 ≤ id) ∧ q = none)
theorem zmo0 {S : zS} {ad : Nat → Nat} {id : Int32} (h : (id < 0 ∨ 61 < id) ∨ ∃ j, j < 62 ∧ id = nI j ∧ S.1 (ad 1) j = 0) : zmo S ad id none := by
  rcases h with h | ⟨j, h1, h2, h3⟩
  · exact Or.inr ⟨h.imp (fun q => q) (zcv (a := 61) (b := 62) (by decide)).mp, rfl⟩
  · exact Or.inl ⟨j, h1, h2, Or.inl ⟨h3, rfl⟩⟩
theorem zmo1 {S : zS} {ad : Nat → Nat} {j : Nat} (hj : j < 62) (h : ¬ S.1 (ad 1) j = 0) : zmo S ad (nI j) (some (S.1 (ad 2) j, S.1 (ad 3) j)) := Or.inl ⟨j, hj, rfl, Or.inr ⟨h, rfl⟩⟩
theorem zlm {L : Nat} (hL : L ≤ 8) (b : Int32) : nI L - 1 < b ↔ nI L ≤ b := zcv (by
  have := pk_sub_toInt (a := L) (b := 1) (by omega) (by omega)
  rw [show (1 : Int32) = nI 1 from rfl, this, nI_toInt (by omega)]; omega)
theorem zI.sby {G : zG} {S0 : zS} {mo : Nat} {ad : Nat → Nat} {S : zS} (h : zI mo ad S) (hM : zM G S0 mo ad) {n b : Nat} (hb : b < 8) : zI mo ad (zpi S (ad 14) n (nI b)) := by
  have e : ∀ k, 0 < zmN k → k ≠ 14 → (zpi S (ad 14) n (nI b)).1 (ad k) = S.1 (ad k) := fun k hk hn => zpi_off S (hM.ne hk (by decide) hn) _ _
  have f : (zpi S (ad 14) n (nI b)).1 mo = S.1 mo := zpi_off S (hM.mo (i := 14) (by decide)).symm _ _
  unfold zI
  rw [e 2 (by decide) (by decide), e 16 (by decide) (by decide), e 27 (by decide) (by decide), e 28 (by decide) (by decide), e 30 (by decide) (by decide), f, zpi_row]
  refine ⟨⟨h.1.1, fun z hz => ?_⟩, h.2⟩
  obtain ⟨hb', hr⟩ := h.1.2 z hz
  refine ⟨?_, hr⟩
  by_cases c : z = n
  · subst c; exact ⟨b, hb, zupd_s _ _ _⟩
  · rw [zupd_n _ c]; exact hb'
theorem zI.leng {G : zG} {S0 : zS} {mo : Nat} {ad : Nat → Nat} {S : zS} (h : zI mo ad S) (hM : zM G S0 mo ad) {i L : Nat} (hL : L ≤ 8) (ha : ∀ n, n < 8 → S.1 (ad 16) n = 1) : zI mo ad (zpi S (ad 2) i (nI L)) := by
  have e : ∀ k, 0 < zmN k → k ≠ 2 → (zpi S (ad 2) i (nI L)).1 (ad k) = S.1 (ad k) := fun k hk hn => zpi_off S (hM.ne hk (by decide) hn) _ _
  have f : (zpi S (ad 2) i (nI L)).1 mo = S.1 mo := zpi_off S (hM.mo (i := 2) (by decide)).symm _ _
  unfold zI
  rw [e 14 (by decide) (by decide), e 16 (by decide) (by decide), e 27 (by decide) (by decide), e 28 (by decide) (by decide), e 30 (by decide) (by decide), f, zpi_row]
  have hl : zLr (upd (S.1 (ad 2)) i (nI L)) := by
    intro z hz
    by_cases c : z = i
    · subst c; exact ⟨L, hL, zupd_s _ _ _⟩
    · rw [zupd_n _ c]; exact h.1.1 z hz
  refine ⟨⟨hl, fun z hz => ?_⟩, h.2⟩
  obtain ⟨hb', i', L', h1, h2, h3, h4, h5, h6⟩ := h.1.2 z hz
  obtain ⟨L2, g1, g2⟩ := hl i' h1
  exact ⟨hb', i', L2, h1, h2, g1, g2, fun c => absurd ((ha z hz).symm.trans c) (by decide), fun c => absurd ((ha z hz).symm.trans c) (by decide)⟩
def zZr (r : Nat → Int32) : Prop := ∀ j, narrow .boolean (.int (r j)) = .int (r j)
theorem znar (x : Int32) : narrow .boolean (.int (vp_nar .boolean x)) = .int (vp_nar .boolean x) := by
  have e : ∀ y : Int32, narrow .boolean (.int y) = .int (vp_nar .boolean y) := fun y => rfl
  rw [e]
  congr 1
  have h : ∀ y : Int32, vp_nar .boolean y = y &&& 1 := fun y => rfl
  rw [h, h]
  apply Int32.toBitVec_inj.mp
  simp [Int32.toBitVec_and, BitVec.and_assoc]
theorem zZr.up {r : Nat → Int32} (h : zZr r) (k : Nat) (x : Int32) : zZr (upd r k (vp_nar .boolean x)) := by
  intro j
  by_cases c : j = k
  · subst c; rw [zupd_s]; exact znar x
  · rw [zupd_n _ c]; exact h j
theorem zI.slots {G : zG} {S0 : zS} {mo : Nat} {ad : Nat → Nat} {S : zS} (h : zI mo ad S) (hM : zM G S0 mo ad) {q : Nat} (hq : q ≤ 16) : zI mo ad (zpi S mo 9 (nI q)) :=
  h.fd hM 9 _ (by rw [zpi_row, zupd_s, zupd_n _ (by decide), zupd_n _ (by decide), zupd_n _ (by decide)]; exact ⟨⟨q, hq, rfl⟩, h.2.2.1, h.2.2.2.1, h.2.2.2.2⟩)
set_option maxHeartbeats 4000000 in
set_option maxRecDepth 100000 in
theorem c_X7_thrown (l : Launch) (dC : Nat → ClassId) (dI : Nat → Nat → Nat) (cy : Nat → ClassId) (G : zG) (S : zS) (sz : Nat) (mo : Nat) (ad : Nat → Nat)  (hM : zM G S mo ad) : Met l yX7_thrown wsX7_thrown ({ frames := 0, cells := 0, slots := 0, locals := 0 }) (zP dC dI cy [.ref mo] G S sz) (vp_Si (fun r => r = S.1 mo 0)) 0 0 (fun _ => False) := by
  refine Met.ofW (cc := cX7_thrown) (maxL := 1) (ret := (some .int)) (by decide) rfl ?_
  intro p e s m args below meth c s₁ B hml hv
  obtain ⟨rfl, hsz, hP, hK, hD0, hN⟩ := hv
  have hx := B.exec
  have hb := B.bytes
  have hr := B.returns
  have hts := atoms_spec (ws := wsX7_thrown) B.pre
  have hown : s.vm.findClass RX7 = some m.cls := findClass_of_methodNamed B.named
  have hlocks := B.notSynchronized
  subst hsz
  have hD := hD0
  have hst := zC.refl mo ad [] [] S
  have hl := lv_entry ([.ref mo]) (n := 1) (Nat.le_of_ble_eq_true rfl)
  rw [lg_entry_eq]
  generalize (lg_sl ([.ref mo]) ++ List.replicate (1 - (lg_sl ([.ref mo])).length) Slot.unset).toArray = ls at hl ⊢
  have hl : lv_has ls 1 [(0, .ref mo)] := hl
  have hi7 : ∀ w ∈ wsX70, w ∈ wsX7_thrown := by decide +kernel
  refine lv_aload_n hx hb dX7_thrown_0 rfl (lv_at hl 0 rfl) ?_
  refine zget (ci := 7) (C := RX7) (T := TX7) (N := 42) hx hb hts hi7 hown hK hP hM.1 rfl rfl 0 (by decide) (hts (.fieldLink RX7 117 "LinClusterModel" "thrown" "I") (by decide +kernel)) (fun _ h9 => h9) rfl dX7_thrown_1 ?_
  refine lv_topi (fun v1 ev1 => ?_)
  exact W.iret (v := v1) hx hb hr (fun t ht hW => ⟨v1, rfl, ev1, ht⟩) (fun _ h => absurd h List.not_mem_nil) dX7_thrown_4
set_option maxHeartbeats 4000000 in
set_option maxRecDepth 100000 in
theorem c_X7_wake (l : Launch) (dC : Nat → ClassId) (dI : Nat → Nat → Nat) (cy : Nat → ClassId) (G : zG) (S : zS) (sz : Nat) (mo : Nat) (ad : Nat → Nat) (v : Int32) (hM : zM G S mo ad) (hI : zI mo ad S) : Met l yX7_wake wsX7_wake ({ frames := 2, cells := 0, slots := 0, locals := 42 }) (zP dC dI cy [.ref mo, .int v] G S sz) (va_Qv (fun S' => (zC mo ad [24] [0] S S' ∧ zI mo ad S') ∧ S'.1 mo 0 = kWake v) (zB dC dI cy (zA cy G S sz) G) (zA cy G S sz)) 0 0 (zA cy G S sz) := by
  refine Met.ofW (cc := cX7_wake) (maxL := 2) (ret := none) (by decide) rfl ?_
  intro p e s m args below meth c s₁ B hml hv
  obtain ⟨rfl, hsz, hP, hK, hD0, hN⟩ := hv
  have hx := B.exec
  have hb := B.bytes
  have hr := B.returns
  have hts := atoms_spec (ws := wsX7_wake) B.pre
  have hown : s.vm.findClass RX7 = some m.cls := findClass_of_methodNamed B.named
  have hlocks := B.notSynchronized
  subst hsz
  have hD : va_D (zA cy G S s.heap.size) (zW cy G S) := hD0.self
  generalize hAe : zA cy G S s.heap.size = A at hD ⊢
  have hA : ∀ q : Nat, s.heap.size ≤ q → A q := fun q h => by rw [← hAe]; exact Or.inr h
  have hS : va_S A s.heap s.heap [] := va_S.rf
  have hst := zC.refl mo ad [24] [0] S
  have hl := lv_entry ([.ref mo, .int v]) (n := 2) (Nat.le_of_ble_eq_true rfl)
  rw [lg_entry_eq]
  generalize (lg_sl ([.ref mo, .int v]) ++ List.replicate (2 - (lg_sl ([.ref mo, .int v])).length) Slot.unset).toArray = ls at hl ⊢
  have hl : lv_has ls 2 [(0, .ref mo), (1, .int v)] := hl
  have hi7 : ∀ w ∈ wsX70, w ∈ wsX7_wake := by decide +kernel
  refine lv_aload_n hx hb dX7_wake_0 rfl (lv_at hl 0 rfl) ?_
  refine lv_iload_n hx hb dX7_wake_1 rfl (lv_at hl 1 rfl) ?_
  refine vp_callSi (va_Run.run (va_runS (As := [.int v]) (rest := [.ref mo]) ⟨hx, hb, hml, hown, hts⟩ (c_X7_isNode l v) (va_cwS 1 hts gX7_wake_X7_isNode rfl rfl rfl (by decide +kernel) ⟨Nat.le_of_ble_eq_true rfl, Nat.le_of_ble_eq_true rfl⟩) zpreS0 rfl rfl hl.1 rfl (lv_room (Nat.le_of_ble_eq_true rfl)) dX7_wake_2 ⟨Nat.le_of_ble_eq_true rfl, Nat.le_of_ble_eq_true rfl⟩)) (fun r1 hr1 => ?_)
  refine lv_if_eq (tgt := 12) hx hb dX7_wake_5 (by decide) (fun c2 => ?_) (fun c2 => ?_)
  · skip
    refine lv_iconst (v := 1) hx hb dX7_wake_12 (by decide) ?_
    refine zputi (ci := 7) (v := 1) (ty := .int) (C := RX7) (T := TX7) (N := 42) hx hb hts hi7 tyX7 tyX7_ok nmX7 hown hK hP hD hS hM.1 rfl rfl 0 (by decide) (hts (.fieldLink RX7 117 "LinClusterModel" "thrown" "I") (by decide +kernel)) (fun _ h9 => h9) rfl (by decide +kernel) rfl rfl (Nat.le_of_ble_eq_true rfl) rfl dX7_wake_13 (fun H locs hP hD hS => ?_)
    have hst := zC.pf hM hst (k := 0) (by decide) 1
    have hI := hI.ffree hM (k := 0) (by decide) 1
    have kn3 := zpi_s S mo 0 1
    refine lv_aload_n hx hb dX7_wake_16 rfl (lv_at hl 0 rfl) ?_
    refine zget (ci := 7) (C := RX7) (T := TX7) (N := 42) hx hb hts hi7 hown hK hP hM.1 rfl rfl 0 (by decide) (hts (.fieldLink RX7 117 "LinClusterModel" "thrown" "I") (by decide +kernel)) (fun _ h9 => h9) rfl dX7_wake_17 ?_
    refine lv_topi (fun v4 ev4 => ?_)
    obtain rfl : v4 = 1 := ev4.trans kn3
    refine lv_if_ne (tgt := 31) hx hb dX7_wake_20 (by decide) (fun c5 => ?_) (fun c5 => ?_)
    · skip
      exact W.vret hx hb hr (fun t ht hW => ⟨⟨(zpi S mo 0 1), rfl, ⟨⟨hst, hI⟩, (by rw [kn3]; exact (if_pos (zin7b hr1 c2)).symm)⟩, by rw [ht]; exact hP, va_K.moved hW.alike hK, hD⟩, hS.F ht⟩) hS.2.2 dX7_wake_31
    · exact absurd c5 (by decide)
  · skip
    obtain ⟨j8, hj8, rfl⟩ := zin7n hr1 c2
    refine lv_iconst (v := 0) hx hb dX7_wake_8 (by decide) ?_
    refine lv_goto (tgt := 13) hx hb dX7_wake_9 (by decide) ?_
    refine zputi (ci := 7) (v := 0) (ty := .int) (C := RX7) (T := TX7) (N := 42) hx hb hts hi7 tyX7 tyX7_ok nmX7 hown hK hP hD hS hM.1 rfl rfl 0 (by decide) (hts (.fieldLink RX7 117 "LinClusterModel" "thrown" "I") (by decide +kernel)) (fun _ h9 => h9) rfl (by decide +kernel) rfl rfl (Nat.le_of_ble_eq_true rfl) rfl dX7_wake_13 (fun H locs hP hD hS => ?_)
    have hst := zC.pf hM hst (k := 0) (by decide) 0
    have hI := hI.ffree hM (k := 0) (by decide) 0
    have kn6 := zpi_s S mo 0 0
    refine lv_aload_n hx hb dX7_wake_16 rfl (lv_at hl 0 rfl) ?_
    refine zget (ci := 7) (C := RX7) (T := TX7) (N := 42) hx hb hts hi7 hown hK hP hM.1 rfl rfl 0 (by decide) (hts (.fieldLink RX7 117 "LinClusterModel" "thrown" "I") (by decide +kernel)) (fun _ h9 => h9) rfl dX7_wake_17 ?_
    refine lv_topi (fun v7 ev7 => ?_)
    obtain rfl : v7 = 0 := ev7.trans kn6
    refine lv_if_ne (tgt := 31) hx hb dX7_wake_20 (by decide) (fun c8 => ?_) (fun c8 => ?_)
    · exact absurd c8 (by decide)
    · skip
      refine lv_aload_n hx hb dX7_wake_23 rfl (lv_at hl 0 rfl) ?_
      refine zget (ci := 7) (C := RX7) (T := TX7) (N := 42) hx hb hts hi7 hown hK hP hM.1 rfl rfl 24 (by decide) (hts (.fieldLink RX7 77 "LinClusterModel" "waking" "[I") (by decide +kernel)) (fun _ h9 => h9) (v := .ref (ad 24)) (congrArg (fun z => some (va_rf z)) (((hM.eq hst.1).2.1 24 (by decide)).1)) dX7_wake_24 ?_
      refine lv_iload_n hx hb dX7_wake_27 rfl (lv_at hl 1 rfl) ?_
      refine lv_bipush (v := 8) hx hb dX7_wake_28 (by decide) ?_
      refine ziast (x := 8) hx hb hK hP hD hS (hM.2.1 24 (by decide)).2.1 (show G.2.2 (ad 24) = 8 from (hM.2.1 24 (by decide)).2.2) (vp_in_nI (n := j8) (N := 8) (by omega) (by omega)) dX7_wake_30 (fun H locs hP hD hS => ?_)
      rw [(nI_clamp (n := j8) (by omega))] at hP hD
      have hst := zC.pa hM hst (k := 24) (by decide) (by decide) j8 8
      have kn9 := zpi_af hM (zpi S mo 0 0) (k := 24) (by decide) j8 8 (i := 0) kn6
      have hI := hI.free hM (k := 24) (by decide) (by decide) j8 8
      have kn10 := zpi_s (zpi S mo 0 0) (ad 24) j8 8
      exact W.vret hx hb hr (fun t ht hW => ⟨⟨(zpi (zpi S mo 0 0) (ad 24) j8 8), rfl, ⟨⟨hst, hI⟩, (by rw [kn9]; exact (if_neg (zn8 hj8)).symm)⟩, by rw [ht]; exact hP, va_K.moved hW.alike hK, hD⟩, hS.F ht⟩) hS.2.2 dX7_wake_31
set_option maxHeartbeats 4000000 in
set_option maxRecDepth 100000 in
theorem c_X7_space (l : Launch) (dC : Nat → ClassId) (dI : Nat → Nat → Nat) (cy : Nat → ClassId) (G : zG) (S : zS) (sz : Nat) (mo : Nat) (ad : Nat → Nat) (v b : Int32) (hM : zM G S mo ad) (hI : zI mo ad S) : Met l yX7_space wsX7_space ({ frames := 2, cells := 0, slots := 0, locals := 42 }) (zP dC dI cy [.ref mo, .int v, .int b] G S sz) (va_Qi (fun (r : Int32) S' => (zC mo ad [12] [0] S S' ∧ zI mo ad S') ∧ S'.1 mo 0 = kSpace v b ∧ (S'.1 mo 0 = 0 → ∃ j, j < 8 ∧ v = nI j ∧ r = S.1 (ad 12) j ∧ S'.1 (ad 12) = upd (S.1 (ad 12)) j b) ∧ (¬ S'.1 mo 0 = 0 → S'.1 (ad 12) = S.1 (ad 12))) (zB dC dI cy (zA cy G S sz) G) (zA cy G S sz)) 0 0 (zA cy G S sz) := by
  refine Met.ofW (cc := cX7_space) (maxL := 4) (ret := (some .int)) (by decide) rfl ?_
  intro p e s m args below meth c s₁ B hml hv
  obtain ⟨rfl, hsz, hP, hK, hD0, hN⟩ := hv
  have hx := B.exec
  have hb := B.bytes
  have hr := B.returns
  have hts := atoms_spec (ws := wsX7_space) B.pre
  have hown : s.vm.findClass RX7 = some m.cls := findClass_of_methodNamed B.named
  have hlocks := B.notSynchronized
  subst hsz
  have hD : va_D (zA cy G S s.heap.size) (zW cy G S) := hD0.self
  generalize hAe : zA cy G S s.heap.size = A at hD ⊢
  have hA : ∀ q : Nat, s.heap.size ≤ q → A q := fun q h => by rw [← hAe]; exact Or.inr h
  have hS : va_S A s.heap s.heap [] := va_S.rf
  have hst := zC.refl mo ad [12] [0] S
  have hl := lv_entry ([.ref mo, .int v, .int b]) (n := 4) (Nat.le_of_ble_eq_true rfl)
  rw [lg_entry_eq]
  generalize (lg_sl ([.ref mo, .int v, .int b]) ++ List.replicate (4 - (lg_sl ([.ref mo, .int v, .int b])).length) Slot.unset).toArray = ls at hl ⊢
  have hl : lv_has ls 4 [(0, .ref mo), (1, .int v), (2, .int b)] := hl
  have hi7 : ∀ w ∈ wsX70, w ∈ wsX7_space := by decide +kernel
  refine lv_aload_n hx hb dX7_space_0 rfl (lv_at hl 0 rfl) ?_
  refine lv_iload_n hx hb dX7_space_1 rfl (lv_at hl 1 rfl) ?_
  refine vp_callSi (va_Run.run (va_runS (As := [.int v]) (rest := [.ref mo]) ⟨hx, hb, hml, hown, hts⟩ (c_X7_isNode l v) (va_cwS 1 hts gX7_space_X7_isNode rfl rfl rfl (by decide +kernel) ⟨Nat.le_of_ble_eq_true rfl, Nat.le_of_ble_eq_true rfl⟩) zpreS0 rfl rfl hl.1 rfl (lv_room (Nat.le_of_ble_eq_true rfl)) dX7_space_2 ⟨Nat.le_of_ble_eq_true rfl, Nat.le_of_ble_eq_true rfl⟩)) (fun r1 hr1 => ?_)
  refine lv_if_eq (tgt := 18) hx hb dX7_space_5 (by decide) (fun c2 => ?_) (fun c2 => ?_)
  · skip
    refine lv_iconst (v := 1) hx hb dX7_space_18 (by decide) ?_
    refine lv_goto (tgt := 23) hx hb dX7_space_19 (by decide) ?_
    refine zputi (ci := 7) (v := 1) (ty := .int) (C := RX7) (T := TX7) (N := 42) hx hb hts hi7 tyX7 tyX7_ok nmX7 hown hK hP hD hS hM.1 rfl rfl 0 (by decide) (hts (.fieldLink RX7 117 "LinClusterModel" "thrown" "I") (by decide +kernel)) (fun _ h9 => h9) rfl (by decide +kernel) rfl rfl (Nat.le_of_ble_eq_true rfl) rfl dX7_space_23 (fun H locs hP hD hS => ?_)
    have hst := zC.pf hM hst (k := 0) (by decide) 1
    have hI := hI.ffree hM (k := 0) (by decide) 1
    have kn3 := zpi_s S mo 0 1
    refine lv_aload_n hx hb dX7_space_26 rfl (lv_at hl 0 rfl) ?_
    refine zget (ci := 7) (C := RX7) (T := TX7) (N := 42) hx hb hts hi7 hown hK hP hM.1 rfl rfl 0 (by decide) (hts (.fieldLink RX7 117 "LinClusterModel" "thrown" "I") (by decide +kernel)) (fun _ h9 => h9) rfl dX7_space_27 ?_
    refine lv_topi (fun v4 ev4 => ?_)
    obtain rfl : v4 = 1 := ev4.trans kn3
    refine lv_if_le (tgt := 35) hx hb dX7_space_30 (by decide) (fun c5 => ?_) (fun c5 => ?_)
    · exact absurd c5 (by decide)
    · skip
      refine lv_iconst (v := 0) hx hb dX7_space_33 (by decide) ?_
      exact W.iret (v := 0) hx hb hr (fun t ht hW => ⟨⟨0, (zpi S mo 0 1), rfl, ⟨⟨hst, hI⟩, ⟨by rw [kn3]; exact (if_pos (Or.inl (zin7b hr1 c2))).symm, fun z9 => absurd (kn3.symm.trans z9) (by decide), fun _ => by rw [zpi_off _ (hM.mo (i := 12) (by decide))]⟩⟩, by rw [ht]; exact hP, va_K.moved hW.alike hK, hD⟩, hS.F ht⟩) hS.2.2 dX7_space_34
  · skip
    obtain ⟨j8, hj8, rfl⟩ := zin7n hr1 c2
    refine lv_iload_n hx hb dX7_space_8 rfl (lv_at hl 2 rfl) ?_
    refine lv_iconst (v := 0) hx hb dX7_space_9 (by decide) ?_
    refine lv_bipush (v := 8) hx hb dX7_space_10 (by decide) ?_
    refine vp_callSi (va_Run.run (va_runS (As := [.int b, .int 0, .int 8]) (rest := [.ref mo]) ⟨hx, hb, hml, hown, hts⟩ (c_X7_isIn l b 0 8) (va_cwS 3 hts gX7_space_X7_isIn rfl rfl rfl (by decide +kernel) ⟨Nat.le_of_ble_eq_true rfl, Nat.le_of_ble_eq_true rfl⟩) zpreS0 rfl rfl hl.1 rfl (lv_room (Nat.le_of_ble_eq_true rfl)) dX7_space_12 ⟨Nat.le_of_ble_eq_true rfl, Nat.le_of_ble_eq_true rfl⟩)) (fun r6 hr6 => ?_)
    refine lv_if_ne (tgt := 22) hx hb dX7_space_15 (by decide) (fun c7 => ?_) (fun c7 => ?_)
    · skip
      refine lv_iconst (v := 0) hx hb dX7_space_22 (by decide) ?_
      refine zputi (ci := 7) (v := 0) (ty := .int) (C := RX7) (T := TX7) (N := 42) hx hb hts hi7 tyX7 tyX7_ok nmX7 hown hK hP hD hS hM.1 rfl rfl 0 (by decide) (hts (.fieldLink RX7 117 "LinClusterModel" "thrown" "I") (by decide +kernel)) (fun _ h9 => h9) rfl (by decide +kernel) rfl rfl (Nat.le_of_ble_eq_true rfl) rfl dX7_space_23 (fun H locs hP hD hS => ?_)
      have hst := zC.pf hM hst (k := 0) (by decide) 0
      have hI := hI.ffree hM (k := 0) (by decide) 0
      have kn8 := zpi_s S mo 0 0
      refine lv_aload_n hx hb dX7_space_26 rfl (lv_at hl 0 rfl) ?_
      refine zget (ci := 7) (C := RX7) (T := TX7) (N := 42) hx hb hts hi7 hown hK hP hM.1 rfl rfl 0 (by decide) (hts (.fieldLink RX7 117 "LinClusterModel" "thrown" "I") (by decide +kernel)) (fun _ h9 => h9) rfl dX7_space_27 ?_
      refine lv_topi (fun v9 ev9 => ?_)
      obtain rfl : v9 = 0 := ev9.trans kn8
      refine lv_if_le (tgt := 35) hx hb dX7_space_30 (by decide) (fun c10 => ?_) (fun c10 => ?_)
      · skip
        refine lv_aload_n hx hb dX7_space_35 rfl (lv_at hl 0 rfl) ?_
        refine zget (ci := 7) (C := RX7) (T := TX7) (N := 42) hx hb hts hi7 hown hK hP hM.1 rfl rfl 12 (by decide) (hts (.fieldLink RX7 41 "LinClusterModel" "spaces" "[I") (by decide +kernel)) (fun _ h9 => h9) (v := .ref (ad 12)) (congrArg (fun z => some (va_rf z)) (((hM.eq hst.1).2.1 12 (by decide)).1)) dX7_space_36 ?_
        refine lv_iload_n hx hb dX7_space_39 rfl (lv_at hl 1 rfl) ?_
        refine ziald hx hb hK hP (hM.2.1 12 (by decide)).2.1 (show G.2.2 (ad 12) = 8 from (hM.2.1 12 (by decide)).2.2) (vp_in_nI (n := j8) (N := 8) (by omega) (by omega)) dX7_space_40 ?_
        refine lv_topi (fun v11 ev11 => ?_)
        rw [(nI_clamp (n := j8) (by omega))] at ev11
        refine lv_istore_n (lv' := [(3, .int v11), (0, .ref mo), (1, .int (nI j8)), (2, .int b)]) hx hb dX7_space_41 rfl hl (by decide) rfl (fun ls hl => ?_)
        refine lv_aload_n hx hb dX7_space_42 rfl (lv_at hl 1 rfl) ?_
        refine zget (ci := 7) (C := RX7) (T := TX7) (N := 42) hx hb hts hi7 hown hK hP hM.1 rfl rfl 12 (by decide) (hts (.fieldLink RX7 41 "LinClusterModel" "spaces" "[I") (by decide +kernel)) (fun _ h9 => h9) (v := .ref (ad 12)) (congrArg (fun z => some (va_rf z)) (((hM.eq hst.1).2.1 12 (by decide)).1)) dX7_space_43 ?_
        refine lv_iload_n hx hb dX7_space_46 rfl (lv_at hl 2 rfl) ?_
        refine lv_iload_n hx hb dX7_space_47 rfl (lv_at hl 3 rfl) ?_
        refine ziast (x := b) hx hb hK hP hD hS (hM.2.1 12 (by decide)).2.1 (show G.2.2 (ad 12) = 8 from (hM.2.1 12 (by decide)).2.2) (vp_in_nI (n := j8) (N := 8) (by omega) (by omega)) dX7_space_48 (fun H locs hP hD hS => ?_)
        rw [(nI_clamp (n := j8) (by omega))] at hP hD
        have hst := zC.pa hM hst (k := 12) (by decide) (by decide) j8 b
        have kn12 := zpi_af hM (zpi S mo 0 0) (k := 12) (by decide) j8 b (i := 0) kn8
        have hI := hI.free hM (k := 12) (by decide) (by decide) j8 b
        have kn13 := zpi_s (zpi S mo 0 0) (ad 12) j8 b
        refine lv_iload_n hx hb dX7_space_49 rfl (lv_at hl 0 rfl) ?_
        exact W.iret (v := v11) hx hb hr (fun t ht hW => ⟨⟨v11, (zpi (zpi S mo 0 0) (ad 12) j8 b), rfl, ⟨⟨hst, hI⟩, ⟨by rw [kn12]; exact (if_neg (fun z9 => z9.elim (zn8 hj8) (fun z8 => z8.elim (zii1 hr6 c7).1 (fun z7 => z7 (Int32.not_lt.mp (zii1 hr6 c7).2))))).symm, fun _ => ⟨j8, hj8, rfl, by rw [ev11, zpi_off _ (hM.mo (i := 12) (by decide))], by rw [zpi_row, zpi_off _ (hM.mo (i := 12) (by decide))]⟩, fun z9 => absurd kn12 z9⟩⟩, by rw [ht]; exact hP, va_K.moved hW.alike hK, hD⟩, hS.F ht⟩) hS.2.2 dX7_space_50
      · exact absurd c10 (by decide)
    · skip
      refine lv_iconst (v := 1) hx hb dX7_space_18 (by decide) ?_
      refine lv_goto (tgt := 23) hx hb dX7_space_19 (by decide) ?_
      refine zputi (ci := 7) (v := 1) (ty := .int) (C := RX7) (T := TX7) (N := 42) hx hb hts hi7 tyX7 tyX7_ok nmX7 hown hK hP hD hS hM.1 rfl rfl 0 (by decide) (hts (.fieldLink RX7 117 "LinClusterModel" "thrown" "I") (by decide +kernel)) (fun _ h9 => h9) rfl (by decide +kernel) rfl rfl (Nat.le_of_ble_eq_true rfl) rfl dX7_space_23 (fun H locs hP hD hS => ?_)
      have hst := zC.pf hM hst (k := 0) (by decide) 1
      have hI := hI.ffree hM (k := 0) (by decide) 1
      have kn14 := zpi_s S mo 0 1
      refine lv_aload_n hx hb dX7_space_26 rfl (lv_at hl 0 rfl) ?_
      refine zget (ci := 7) (C := RX7) (T := TX7) (N := 42) hx hb hts hi7 hown hK hP hM.1 rfl rfl 0 (by decide) (hts (.fieldLink RX7 117 "LinClusterModel" "thrown" "I") (by decide +kernel)) (fun _ h9 => h9) rfl dX7_space_27 ?_
      refine lv_topi (fun v15 ev15 => ?_)
      obtain rfl : v15 = 1 := ev15.trans kn14
      refine lv_if_le (tgt := 35) hx hb dX7_space_30 (by decide) (fun c16 => ?_) (fun c16 => ?_)
      · exact absurd c16 (by decide)
      · skip
        refine lv_iconst (v := 0) hx hb dX7_space_33 (by decide) ?_
        exact W.iret (v := 0) hx hb hr (fun t ht hW => ⟨⟨0, (zpi S mo 0 1), rfl, ⟨⟨hst, hI⟩, ⟨by rw [kn14]; exact (if_pos (Or.inr ((zii0 hr6 c7).imp id Int32.not_le.mpr))).symm, fun z9 => absurd (kn14.symm.trans z9) (by decide), fun _ => by rw [zpi_off _ (hM.mo (i := 12) (by decide))]⟩⟩, by rw [ht]; exact hP, va_K.moved hW.alike hK, hD⟩, hS.F ht⟩) hS.2.2 dX7_space_34
