set_option maxHeartbeats 4000000 in
set_option maxRecDepth 100000 in
theorem c_X3_isAwake (l : Launch) (dC : Nat → ClassId) (dI : Nat → Nat → Nat) (cy : Nat → ClassId) (G : zG) (S : zS) (sz : Nat) (a : Nat) (hO : zO G a 3) : Met l yX3_isAwake wsX3_isAwake ({ frames := 0, cells := 0, slots := 0, locals := 0 }) (zP dC dI cy [.ref a] G S sz) (vp_Si (fun r => True)) 0 0 (fun _ => False) := by
  refine Met.ofW (cc := cX3_isAwake) (maxL := 1) (ret := (some .boolean)) (by decide) rfl ?_
  intro p e s m args below meth c s₁ B hml hv
  obtain ⟨rfl, hsz, hP, hK, hD0, hN⟩ := hv
  have hx := B.exec
  have hb := B.bytes
  have hr := B.returns
  have hts := atoms_spec (ws := wsX3_isAwake) B.pre
  have hown : s.vm.findClass RX3 = some m.cls := findClass_of_methodNamed B.named
  have hlocks := B.notSynchronized
  subst hsz
  have hD := hD0
  have hst := zSt.refl G S
  have hl := lv_entry ([.ref a]) (n := 1) (Nat.le_of_ble_eq_true rfl)
  rw [lg_entry_eq]
  generalize (lg_sl ([.ref a]) ++ List.replicate (1 - (lg_sl ([.ref a])).length) Slot.unset).toArray = ls at hl ⊢
  have hl : lv_has ls 1 [(0, .ref a)] := hl
  have hi3 : ∀ w ∈ wsX30, w ∈ wsX3_isAwake := by decide +kernel
  refine lv_aload_n hx hb dX3_isAwake_0 rfl (lv_at hl 0 rfl) ?_
  refine zget (ci := 3) (C := RX3) (T := TX3) (N := 15) hx hb hts hi3 hown hK hP hO rfl rfl 6 (by decide) (hts (.fieldLink RX3 36 "LinCluster$Node" "at" "I") (by decide +kernel)) (fun _ h9 => h9) rfl dX3_isAwake_1 ?_
  refine lv_topi (fun v1 ev1 => ?_)
  refine lv_if_eq (tgt := 11) hx hb dX3_isAwake_4 (by decide) (fun c2 => ?_) (fun c2 => ?_)
  · skip
    refine lv_iconst (v := 0) hx hb dX3_isAwake_11 (by decide) ?_
    exact W.zret (v := 0) (ty := .boolean) hx hb hr rfl (fun t ht hW => ⟨0, rfl, trivial, ht⟩) (fun _ h => absurd h List.not_mem_nil) dX3_isAwake_12
  · skip
    refine lv_iconst (v := 1) hx hb dX3_isAwake_7 (by decide) ?_
    refine lv_goto (tgt := 12) hx hb dX3_isAwake_8 (by decide) ?_
    exact W.zret (v := 1) (ty := .boolean) hx hb hr rfl (fun t ht hW => ⟨1, rfl, trivial, ht⟩) (fun _ h => absurd h List.not_mem_nil) dX3_isAwake_12
set_option maxHeartbeats 4000000 in
set_option maxRecDepth 100000 in
theorem c_X3_fail (l : Launch) (dC : Nat → ClassId) (dI : Nat → Nat → Nat) (cy : Nat → ClassId) (G : zG) (S : zS) (sz : Nat) (a i r : Nat) (hNd : zNd G S a i r) : Met l yX3_fail wsX3_fail ({ frames := 0, cells := 0, slots := 0, locals := 0 }) (zP dC dI cy [.ref a] G S sz) (va_Qv (fun S' => zSt G S S') (zB dC dI cy (zA cy G S sz) G) (zA cy G S sz)) 0 0 (zA cy G S sz) := by
  refine Met.ofW (cc := cX3_fail) (maxL := 1) (ret := none) (by decide) rfl ?_
  intro p e s m args below meth c s₁ B hml hv
  obtain ⟨rfl, hsz, hP, hK, hD0, hN⟩ := hv
  have hx := B.exec
  have hb := B.bytes
  have hr := B.returns
  have hts := atoms_spec (ws := wsX3_fail) B.pre
  have hown : s.vm.findClass RX3 = some m.cls := findClass_of_methodNamed B.named
  have hlocks := B.notSynchronized
  subst hsz
  have hD : va_D (zA cy G S s.heap.size) (zW cy G S) := hD0.self
  generalize hAe : zA cy G S s.heap.size = A at hD ⊢
  have hA : ∀ q : Nat, s.heap.size ≤ q → A q := fun q h => by rw [← hAe]; exact Or.inr h
  have hS : va_S A s.heap s.heap [] := va_S.rf
  have hst := zSt.refl G S
  have hl := lv_entry ([.ref a]) (n := 1) (Nat.le_of_ble_eq_true rfl)
  rw [lg_entry_eq]
  generalize (lg_sl ([.ref a]) ++ List.replicate (1 - (lg_sl ([.ref a])).length) Slot.unset).toArray = ls at hl ⊢
  have hl : lv_has ls 1 [(0, .ref a)] := hl
  have hi3 : ∀ w ∈ wsX30, w ∈ wsX3_fail := by decide +kernel
  refine lv_aload_n hx hb dX3_fail_0 rfl (lv_at hl 0 rfl) ?_
  refine lv_iconst (v := 1) hx hb dX3_fail_1 (by decide) ?_
  refine zputi (ci := 3) (v := 1) (ty := .boolean) (C := RX3) (T := TX3) (N := 15) hx hb hts hi3 tyX3 tyX3_ok nmX3 hown hK hP hD hS hNd.1 rfl rfl 10 (by decide) (hts (.fieldLink RX3 49 "LinCluster$Node" "error" "Z") (by decide +kernel)) (fun _ h9 => h9) rfl (by decide +kernel) rfl rfl (Nat.le_of_ble_eq_true rfl) rfl dX3_fail_2 (fun H locs hP hD hS => ?_)
  have hst := hst.pi (k := 10) (v := 1) hNd.1.2 rfl
  refine lv_aload_n hx hb dX3_fail_5 rfl (lv_at hl 0 rfl) ?_
  refine lv_dup hx hb dX3_fail_6 rfl ?_
  refine zget (ci := 3) (C := RX3) (T := TX3) (N := 15) hx hb hts hi3 hown hK hP hNd.1 rfl rfl 14 (by decide) (hts (.fieldLink RX3 61 "LinCluster$Node" "errors" "I") (by decide +kernel)) (fun _ h9 => h9) rfl dX3_fail_7 ?_
  refine lv_topi (fun v1 ev1 => ?_)
  refine lv_iconst (v := 1) hx hb dX3_fail_10 (by decide) ?_
  refine lv_iadd hx hb dX3_fail_11 ?_
  refine lv_topi (fun v2 ev2 => ?_)
  refine zputi (ci := 3) (v := v2) (ty := .int) (C := RX3) (T := TX3) (N := 15) hx hb hts hi3 tyX3 tyX3_ok nmX3 hown hK hP hD hS hNd.1 rfl rfl 14 (by decide) (hts (.fieldLink RX3 61 "LinCluster$Node" "errors" "I") (by decide +kernel)) (fun _ h9 => h9) rfl (by decide +kernel) rfl rfl (Nat.le_of_ble_eq_true rfl) rfl dX3_fail_12 (fun H locs hP hD hS => ?_)
  have hst := hst.pi (k := 14) (v := v2) hNd.1.2 rfl
  exact W.vret hx hb hr (fun t ht hW => ⟨⟨(zpi (zpi S a 10 1) a 14 v2), rfl, hst, by rw [ht]; exact hP, va_K.moved hW.alike hK, hD⟩, hS.F ht⟩) hS.2.2 dX3_fail_15
set_option maxHeartbeats 4000000 in
set_option maxRecDepth 100000 in
theorem c_X3_lookAsleep (l : Launch) (dC : Nat → ClassId) (dI : Nat → Nat → Nat) (cy : Nat → ClassId) (G : zG) (S : zS) (sz : Nat) (a i r : Nat) (n k : Int32) (hNd : zNd G S a i r) : Met l yX3_lookAsleep wsX3_lookAsleep ({ frames := 0, cells := 0, slots := 0, locals := 0 }) (zP dC dI cy [.ref a, .int n, .int k] G S sz) (va_Qv (fun S' => zSt G S S') (zB dC dI cy (zA cy G S sz) G) (zA cy G S sz)) 0 0 (zA cy G S sz) := by
  refine Met.ofW (cc := cX3_lookAsleep) (maxL := 3) (ret := none) (by decide) rfl ?_
  intro p e s m args below meth c s₁ B hml hv
  obtain ⟨rfl, hsz, hP, hK, hD0, hN⟩ := hv
  have hx := B.exec
  have hb := B.bytes
  have hr := B.returns
  have hts := atoms_spec (ws := wsX3_lookAsleep) B.pre
  have hown : s.vm.findClass RX3 = some m.cls := findClass_of_methodNamed B.named
  have hlocks := B.notSynchronized
  subst hsz
  have hD : va_D (zA cy G S s.heap.size) (zW cy G S) := hD0.self
  generalize hAe : zA cy G S s.heap.size = A at hD ⊢
  have hA : ∀ q : Nat, s.heap.size ≤ q → A q := fun q h => by rw [← hAe]; exact Or.inr h
  have hS : va_S A s.heap s.heap [] := va_S.rf
  have hst := zSt.refl G S
  have hl := lv_entry ([.ref a, .int n, .int k]) (n := 3) (Nat.le_of_ble_eq_true rfl)
  rw [lg_entry_eq]
  generalize (lg_sl ([.ref a, .int n, .int k]) ++ List.replicate (3 - (lg_sl ([.ref a, .int n, .int k])).length) Slot.unset).toArray = ls at hl ⊢
  have hl : lv_has ls 3 [(0, .ref a), (1, .int n), (2, .int k)] := hl
  have hi3 : ∀ w ∈ wsX30, w ∈ wsX3_lookAsleep := by decide +kernel
  refine lv_iload_n hx hb dX3_lookAsleep_0 rfl (lv_at hl 1 rfl) ?_
  refine lv_iconst (v := 1) hx hb dX3_lookAsleep_1 (by decide) ?_
  refine lv_icmp_ne (tgt := 20) hx hb dX3_lookAsleep_2 (by decide) (fun c1 => ?_) (fun c1 => ?_)
  · skip
    exact W.vret hx hb hr (fun t ht hW => ⟨⟨S, rfl, hst, by rw [ht]; exact hP, va_K.moved hW.alike hK, hD⟩, hS.F ht⟩) hS.2.2 dX3_lookAsleep_20
  · skip
    refine lv_iload_n hx hb dX3_lookAsleep_5 rfl (lv_at hl 2 rfl) ?_
    refine lv_iconst (v := 5) hx hb dX3_lookAsleep_6 (by decide) ?_
    refine lv_icmp_lt (tgt := 20) hx hb dX3_lookAsleep_7 (by decide) (fun c2 => ?_) (fun c2 => ?_)
    · skip
      exact W.vret hx hb hr (fun t ht hW => ⟨⟨S, rfl, hst, by rw [ht]; exact hP, va_K.moved hW.alike hK, hD⟩, hS.F ht⟩) hS.2.2 dX3_lookAsleep_20
    · skip
      refine lv_aload_n hx hb dX3_lookAsleep_10 rfl (lv_at hl 0 rfl) ?_
      refine lv_iconst (v := 1) hx hb dX3_lookAsleep_11 (by decide) ?_
      refine zputi (ci := 3) (v := 1) (ty := .int) (C := RX3) (T := TX3) (N := 15) hx hb hts hi3 tyX3 tyX3_ok nmX3 hown hK hP hD hS hNd.1 rfl rfl 6 (by decide) (hts (.fieldLink RX3 36 "LinCluster$Node" "at" "I") (by decide +kernel)) (fun _ h9 => h9) rfl (by decide +kernel) rfl rfl (Nat.le_of_ble_eq_true rfl) rfl dX3_lookAsleep_12 (fun H locs hP hD hS => ?_)
      have hst := hst.pi (k := 6) (v := 1) hNd.1.2 rfl
      refine lv_aload_n hx hb dX3_lookAsleep_15 rfl (lv_at hl 0 rfl) ?_
      refine lv_iconst (v := 0) hx hb dX3_lookAsleep_16 (by decide) ?_
      refine zputi (ci := 3) (v := 0) (ty := .int) (C := RX3) (T := TX3) (N := 15) hx hb hts hi3 tyX3 tyX3_ok nmX3 hown hK hP hD hS hNd.1 rfl rfl 8 (by decide) (hts (.fieldLink RX3 43 "LinCluster$Node" "ones" "I") (by decide +kernel)) (fun _ h9 => h9) rfl (by decide +kernel) rfl rfl (Nat.le_of_ble_eq_true rfl) rfl dX3_lookAsleep_17 (fun H locs hP hD hS => ?_)
      have hst := hst.pi (k := 8) (v := 0) hNd.1.2 rfl
      exact W.vret hx hb hr (fun t ht hW => ⟨⟨(zpi (zpi S a 6 1) a 8 0), rfl, hst, by rw [ht]; exact hP, va_K.moved hW.alike hK, hD⟩, hS.F ht⟩) hS.2.2 dX3_lookAsleep_20
set_option maxHeartbeats 4000000 in
set_option maxRecDepth 100000 in
theorem c_X3_meetBreak (l : Launch) (dC : Nat → ClassId) (dI : Nat → Nat → Nat) (cy : Nat → ClassId) (G : zG) (S : zS) (sz : Nat) (a i r : Nat) (hNd : zNd G S a i r) : Met l yX3_meetBreak wsX3_meetBreak ({ frames := 1, cells := 0, slots := 0, locals := 20 }) (zP dC dI cy [.ref a] G S sz) (va_Qv (fun S' => zSt G S S') (zB dC dI cy (zA cy G S sz) G) (zA cy G S sz)) 0 0 (zA cy G S sz) := by
  refine Met.ofW (cc := cX3_meetBreak) (maxL := 1) (ret := none) (by decide) rfl ?_
  intro p e s m args below meth c s₁ B hml hv
  obtain ⟨rfl, hsz, hP, hK, hD0, hN⟩ := hv
  have hx := B.exec
  have hb := B.bytes
  have hr := B.returns
  have hts := atoms_spec (ws := wsX3_meetBreak) B.pre
  have hown : s.vm.findClass RX3 = some m.cls := findClass_of_methodNamed B.named
  have hlocks := B.notSynchronized
  subst hsz
  have hD : va_D (zA cy G S s.heap.size) (zW cy G S) := hD0.self
  generalize hAe : zA cy G S s.heap.size = A at hD ⊢
  have hA : ∀ q : Nat, s.heap.size ≤ q → A q := fun q h => by rw [← hAe]; exact Or.inr h
  have hS : va_S A s.heap s.heap [] := va_S.rf
  have hst := zSt.refl G S
  have hl := lv_entry ([.ref a]) (n := 1) (Nat.le_of_ble_eq_true rfl)
  rw [lg_entry_eq]
  generalize (lg_sl ([.ref a]) ++ List.replicate (1 - (lg_sl ([.ref a])).length) Slot.unset).toArray = ls at hl ⊢
  have hl : lv_has ls 1 [(0, .ref a)] := hl
  have hi3 : ∀ w ∈ wsX30, w ∈ wsX3_meetBreak := by decide +kernel
  refine lv_aload_n hx hb dX3_meetBreak_0 rfl (lv_at hl 0 rfl) ?_
  refine zget (ci := 3) (C := RX3) (T := TX3) (N := 15) hx hb hts hi3 hown hK hP hNd.1 rfl rfl 6 (by decide) (hts (.fieldLink RX3 36 "LinCluster$Node" "at" "I") (by decide +kernel)) (fun _ h9 => h9) rfl dX3_meetBreak_1 ?_
  refine lv_topi (fun v1 ev1 => ?_)
  refine lv_iconst (v := 5) hx hb dX3_meetBreak_4 (by decide) ?_
  refine lv_icmp_ne (tgt := 12) hx hb dX3_meetBreak_5 (by decide) (fun c2 => ?_) (fun c2 => ?_)
  · skip
    refine lv_aload_n hx hb dX3_meetBreak_12 rfl (lv_at hl 0 rfl) ?_
    refine lv_iconst (v := 2) hx hb dX3_meetBreak_13 (by decide) ?_
    refine zputi (ci := 3) (v := 2) (ty := .int) (C := RX3) (T := TX3) (N := 15) hx hb hts hi3 tyX3 tyX3_ok nmX3 hown hK hP hD hS hNd.1 rfl rfl 6 (by decide) (hts (.fieldLink RX3 36 "LinCluster$Node" "at" "I") (by decide +kernel)) (fun _ h9 => h9) rfl (by decide +kernel) rfl rfl (Nat.le_of_ble_eq_true rfl) rfl dX3_meetBreak_14 (fun H locs hP hD hS => ?_)
    have hst := hst.pi (k := 6) (v := 2) hNd.1.2 rfl
    exact W.vret hx hb hr (fun t ht hW => ⟨⟨(zpi S a 6 2), rfl, hst, by rw [ht]; exact hP, va_K.moved hW.alike hK, hD⟩, hS.F ht⟩) hS.2.2 dX3_meetBreak_17
  · skip
    refine lv_aload_n hx hb dX3_meetBreak_8 rfl (lv_at hl 0 rfl) ?_
    refine zcallv (va_runV (As := []) (rest := []) ⟨hx, hb, hml, hown, hts⟩ (c_X3_fail l dC dI cy G S s.heap.size a i r  (hst.nd hNd)) (cwV 0 hts gX3_meetBreak_X3_fail rfl rfl rfl (by decide +kernel) ⟨Nat.le_of_ble_eq_true rfl, Nat.le_of_ble_eq_true rfl⟩) (zpreV hK hP hD hN (zrecv3 hK hP hNd.1)) rfl rfl hl.1 rfl (lv_room (Nat.le_of_ble_eq_true rfl)) dX3_meetBreak_9 ⟨Nat.le_of_ble_eq_true rfl, Nat.le_of_ble_eq_true rfl⟩) hS hD hA (fun S4 H locs hr3 hP hD hS => ?_)
    have hst := hst.trans hr3
    refine lv_aload_n hx hb dX3_meetBreak_12 rfl (lv_at hl 0 rfl) ?_
    refine lv_iconst (v := 2) hx hb dX3_meetBreak_13 (by decide) ?_
    refine zputi (ci := 3) (v := 2) (ty := .int) (C := RX3) (T := TX3) (N := 15) hx hb hts hi3 tyX3 tyX3_ok nmX3 hown hK hP hD hS hNd.1 rfl rfl 6 (by decide) (hts (.fieldLink RX3 36 "LinCluster$Node" "at" "I") (by decide +kernel)) (fun _ h9 => h9) rfl (by decide +kernel) rfl rfl (Nat.le_of_ble_eq_true rfl) rfl dX3_meetBreak_14 (fun H locs hP hD hS => ?_)
    have hst := hst.pi (k := 6) (v := 2) hNd.1.2 rfl
    exact W.vret hx hb hr (fun t ht hW => ⟨⟨(zpi S4 a 6 2), rfl, hst, by rw [ht]; exact hP, va_K.moved hW.alike hK, hD⟩, hS.F ht⟩) hS.2.2 dX3_meetBreak_17
set_option maxHeartbeats 4000000 in
set_option maxRecDepth 100000 in
theorem c_X3_beginHeader (l : Launch) (dC : Nat → ClassId) (dI : Nat → Nat → Nat) (cy : Nat → ClassId) (G : zG) (S : zS) (sz : Nat) (a i r : Nat) (hNd : zNd G S a i r) : Met l yX3_beginHeader wsX3_beginHeader ({ frames := 1, cells := 0, slots := 0, locals := 20 }) (zP dC dI cy [.ref a] G S sz) (va_Qv (fun S' => zSt G S S') (zB dC dI cy (zA cy G S sz) G) (zA cy G S sz)) 0 0 (zA cy G S sz) := by
  refine Met.ofW (cc := cX3_beginHeader) (maxL := 1) (ret := none) (by decide) rfl ?_
  intro p e s m args below meth c s₁ B hml hv
  obtain ⟨rfl, hsz, hP, hK, hD0, hN⟩ := hv
  have hx := B.exec
  have hb := B.bytes
  have hr := B.returns
  have hts := atoms_spec (ws := wsX3_beginHeader) B.pre
  have hown : s.vm.findClass RX3 = some m.cls := findClass_of_methodNamed B.named
  have hlocks := B.notSynchronized
  subst hsz
  have hD : va_D (zA cy G S s.heap.size) (zW cy G S) := hD0.self
  generalize hAe : zA cy G S s.heap.size = A at hD ⊢
  have hA : ∀ q : Nat, s.heap.size ≤ q → A q := fun q h => by rw [← hAe]; exact Or.inr h
  have hS : va_S A s.heap s.heap [] := va_S.rf
  have hst := zSt.refl G S
  have hl := lv_entry ([.ref a]) (n := 1) (Nat.le_of_ble_eq_true rfl)
  rw [lg_entry_eq]
  generalize (lg_sl ([.ref a]) ++ List.replicate (1 - (lg_sl ([.ref a])).length) Slot.unset).toArray = ls at hl ⊢
  have hl : lv_has ls 1 [(0, .ref a)] := hl
  have hi3 : ∀ w ∈ wsX30, w ∈ wsX3_beginHeader := by decide +kernel
  refine lv_aload_n hx hb dX3_beginHeader_0 rfl (lv_at hl 0 rfl) ?_
  refine lv_iconst (v := 3) hx hb dX3_beginHeader_1 (by decide) ?_
  refine zputi (ci := 3) (v := 3) (ty := .int) (C := RX3) (T := TX3) (N := 15) hx hb hts hi3 tyX3 tyX3_ok nmX3 hown hK hP hD hS hNd.1 rfl rfl 6 (by decide) (hts (.fieldLink RX3 36 "LinCluster$Node" "at" "I") (by decide +kernel)) (fun _ h9 => h9) rfl (by decide +kernel) rfl rfl (Nat.le_of_ble_eq_true rfl) rfl dX3_beginHeader_2 (fun H locs hP hD hS => ?_)
  have hst := hst.pi (k := 6) (v := 3) hNd.1.2 rfl
  refine lv_aload_n hx hb dX3_beginHeader_5 rfl (lv_at hl 0 rfl) ?_
  refine lv_iconst (v := 0) hx hb dX3_beginHeader_6 (by decide) ?_
  refine zputi (ci := 3) (v := 0) (ty := .boolean) (C := RX3) (T := TX3) (N := 15) hx hb hts hi3 tyX3 tyX3_ok nmX3 hown hK hP hD hS hNd.1 rfl rfl 7 (by decide) (hts (.fieldLink RX3 39 "LinCluster$Node" "synced" "Z") (by decide +kernel)) (fun _ h9 => h9) rfl (by decide +kernel) rfl rfl (Nat.le_of_ble_eq_true rfl) rfl dX3_beginHeader_7 (fun H locs hP hD hS => ?_)
  have hst := hst.pi (k := 7) (v := 0) hNd.1.2 rfl
  refine lv_aload_n hx hb dX3_beginHeader_10 rfl (lv_at hl 0 rfl) ?_
  refine zget (ci := 3) (C := RX3) (T := TX3) (N := 15) hx hb hts hi3 hown hK hP hNd.1 rfl rfl 1 (by decide) (hts (.fieldLink RX3 12 "LinCluster$Node" "incoming" "LLinCluster$Incoming;") (by decide +kernel)) (fun _ h9 => h9) (v := .ref i) (congrArg (fun z => some (va_rf z)) ((hst.nd hNd).2.1)) dX3_beginHeader_11 ?_
  refine zcallv (va_runV (As := []) (rest := []) ⟨hx, hb, hml, hown, hts⟩ (c_X2_clear l dC dI cy G (zpi (zpi S a 6 3) a 7 0) H.size i hNd.2.2.2.1) (cwV 0 hts gX3_beginHeader_X2_clear rfl rfl rfl (by decide +kernel) ⟨Nat.le_of_ble_eq_true rfl, Nat.le_of_ble_eq_true rfl⟩) (zpreV hK hP hD hN (zrecv2 hK hP hNd.2.2.2.1)) rfl rfl hl.1 rfl (lv_room (Nat.le_of_ble_eq_true rfl)) dX3_beginHeader_14 ⟨Nat.le_of_ble_eq_true rfl, Nat.le_of_ble_eq_true rfl⟩) hS hD hA (fun S2 H locs hr1 hP hD hS => ?_)
  have hst := hst.trans hr1
  exact W.vret hx hb hr (fun t ht hW => ⟨⟨S2, rfl, hst, by rw [ht]; exact hP, va_K.moved hW.alike hK, hD⟩, hS.F ht⟩) hS.2.2 dX3_beginHeader_17
set_option maxHeartbeats 4000000 in
set_option maxRecDepth 100000 in
theorem c_X3_bitToSay (l : Launch) (dC : Nat → ClassId) (dI : Nat → Nat → Nat) (cy : Nat → ClassId) (G : zG) (S : zS) (sz : Nat) (a i r : Nat) (hNd : zNd G S a i r) : Met l yX3_bitToSay wsX3_bitToSay ({ frames := 2, cells := 0, slots := 0, locals := 45 }) (zP dC dI cy [.ref a] G S sz) (vp_Si (fun r => True)) 0 0 (fun _ => False) := by
  refine Met.ofW (cc := cX3_bitToSay) (maxL := 1) (ret := (some .int)) (by decide) rfl ?_
  intro p e s m args below meth c s₁ B hml hv
  obtain ⟨rfl, hsz, hP, hK, hD0, hN⟩ := hv
  have hx := B.exec
  have hb := B.bytes
  have hr := B.returns
  have hts := atoms_spec (ws := wsX3_bitToSay) B.pre
  have hown : s.vm.findClass RX3 = some m.cls := findClass_of_methodNamed B.named
  have hlocks := B.notSynchronized
  subst hsz
  have hD := hD0
  have hst := zSt.refl G S
  have hl := lv_entry ([.ref a]) (n := 1) (Nat.le_of_ble_eq_true rfl)
  rw [lg_entry_eq]
  generalize (lg_sl ([.ref a]) ++ List.replicate (1 - (lg_sl ([.ref a])).length) Slot.unset).toArray = ls at hl ⊢
  have hl : lv_has ls 1 [(0, .ref a)] := hl
  have hi3 : ∀ w ∈ wsX30, w ∈ wsX3_bitToSay := by decide +kernel
  refine lv_aload_n hx hb dX3_bitToSay_0 rfl (lv_at hl 0 rfl) ?_
  refine zget (ci := 3) (C := RX3) (T := TX3) (N := 15) hx hb hts hi3 hown hK hP hNd.1 rfl rfl 9 (by decide) (hts (.fieldLink RX3 46 "LinCluster$Node" "wakingBits" "I") (by decide +kernel)) (fun _ h9 => h9) rfl dX3_bitToSay_1 ?_
  refine lv_topi (fun v1 ev1 => ?_)
  refine lv_if_le (tgt := 9) hx hb dX3_bitToSay_4 (by decide) (fun c2 => ?_) (fun c2 => ?_)
  · skip
    refine lv_aload_n hx hb dX3_bitToSay_9 rfl (lv_at hl 0 rfl) ?_
    refine zget (ci := 3) (C := RX3) (T := TX3) (N := 15) hx hb hts hi3 hown hK hP hNd.1 rfl rfl 6 (by decide) (hts (.fieldLink RX3 36 "LinCluster$Node" "at" "I") (by decide +kernel)) (fun _ h9 => h9) rfl dX3_bitToSay_10 ?_
    refine lv_topi (fun v3 ev3 => ?_)
    refine lv_iconst (v := 4) hx hb dX3_bitToSay_13 (by decide) ?_
    refine lv_icmp_ne (tgt := 27) hx hb dX3_bitToSay_14 (by decide) (fun c4 => ?_) (fun c4 => ?_)
    · skip
      refine lv_iconst (v := 1) hx hb dX3_bitToSay_27 (by decide) ?_
      exact W.iret (v := 1) hx hb hr (fun t ht hW => ⟨1, rfl, trivial, ht⟩) (fun _ h => absurd h List.not_mem_nil) dX3_bitToSay_28
    · skip
      refine lv_aload_n hx hb dX3_bitToSay_17 rfl (lv_at hl 0 rfl) ?_
      refine zget (ci := 3) (C := RX3) (T := TX3) (N := 15) hx hb hts hi3 hown hK hP hNd.1 rfl rfl 2 (by decide) (hts (.fieldLink RX3 21 "LinCluster$Node" "response" "LLinCluster$Response;") (by decide +kernel)) (fun _ h9 => h9) (v := .ref r) (congrArg (fun z => some (va_rf z)) ((hst.nd hNd).2.2.1)) dX3_bitToSay_18 ?_
      refine vp_callSi (va_Run.run (va_runV (As := []) (rest := []) ⟨hx, hb, hml, hown, hts⟩ (c_X4_bitToSay l dC dI cy G S s.heap.size r  hNd.2.2.2.2) (cwV 0 hts gX3_bitToSay_X4_bitToSay rfl rfl rfl (by decide +kernel) ⟨Nat.le_of_ble_eq_true rfl, Nat.le_of_ble_eq_true rfl⟩) (zpreV hK hP hD hN (zrecv4 hK hP hNd.2.2.2.2)) rfl rfl hl.1 rfl (lv_room (Nat.le_of_ble_eq_true rfl)) dX3_bitToSay_21 ⟨Nat.le_of_ble_eq_true rfl, Nat.le_of_ble_eq_true rfl⟩)) (fun r5 hr5 => ?_)
      refine lv_goto (tgt := 28) hx hb dX3_bitToSay_24 (by decide) ?_
      exact W.iret (v := r5) hx hb hr (fun t ht hW => ⟨r5, rfl, trivial, ht⟩) (fun _ h => absurd h List.not_mem_nil) dX3_bitToSay_28
  · skip
    refine lv_iconst (v := 0) hx hb dX3_bitToSay_7 (by decide) ?_
    exact W.iret (v := 0) hx hb hr (fun t ht hW => ⟨0, rfl, trivial, ht⟩) (fun _ h => absurd h List.not_mem_nil) dX3_bitToSay_8
set_option maxHeartbeats 4000000 in
set_option maxRecDepth 100000 in
theorem c_X3_bytesToSay (l : Launch) (dC : Nat → ClassId) (dI : Nat → Nat → Nat) (cy : Nat → ClassId) (G : zG) (S : zS) (sz : Nat) (a i r : Nat) (y ka ta : Nat) (hNd : zNd G S a i r) (hF : zFr G S y ka ta) : Met l yX3_bytesToSay wsX3_bytesToSay ({ frames := 0, cells := 0, slots := 0, locals := 0 }) (zP dC dI cy [.ref a, .ref y] G S sz) (vp_Sl (fun r => True)) 0 0 (fun _ => False) := by
  refine Met.ofW (cc := cX3_bytesToSay) (maxL := 4) (ret := (some .long)) (by decide) rfl ?_
  intro p e s m args below meth c s₁ B hml hv
  obtain ⟨rfl, hsz, hP, hK, hD0, hN⟩ := hv
  have hx := B.exec
  have hb := B.bytes
  have hr := B.returns
  have hts := atoms_spec (ws := wsX3_bytesToSay) B.pre
  have hown : s.vm.findClass RX3 = some m.cls := findClass_of_methodNamed B.named
  have hlocks := B.notSynchronized
  subst hsz
  have hD := hD0
  have hst := zSt.refl G S
  have hl := lv_entry ([.ref a, .ref y]) (n := 4) (Nat.le_of_ble_eq_true rfl)
  rw [lg_entry_eq]
  generalize (lg_sl ([.ref a, .ref y]) ++ List.replicate (4 - (lg_sl ([.ref a, .ref y])).length) Slot.unset).toArray = ls at hl ⊢
  have hl : lv_has ls 4 [(0, .ref a), (1, .ref y)] := hl
  have hi1 : ∀ w ∈ wsX10, w ∈ wsX3_bytesToSay := by decide +kernel
  have hi3 : ∀ w ∈ wsX30, w ∈ wsX3_bytesToSay := by decide +kernel
  refine lv_aload_n hx hb dX3_bytesToSay_0 rfl (lv_at hl 1 rfl) ?_
  refine lv_aload_n hx hb dX3_bytesToSay_1 rfl (lv_at hl 0 rfl) ?_
  refine zget (ci := 3) (C := RX3) (T := TX3) (N := 15) hx hb hts hi3 hown hK hP hNd.1 rfl rfl 4 (by decide) (hts (.fieldLink RX3 29 "LinCluster$Node" "statusFrame" "LLinCluster$Frame;") (by decide +kernel)) (fun _ h9 => h9) rfl dX3_bytesToSay_2 ?_
  refine lv_acmp_eq (rx := (some y)) (ry := (S.2.2 a 4)) (tgt := 13) hx hb dX3_bytesToSay_5 (by decide) (fun c1 => ?_) (fun c1 => ?_)
  · skip
    refine lv_lconst (v := 1) hx hb dX3_bytesToSay_13 (by decide) ?_
    refine lv_aload_n hx hb dX3_bytesToSay_14 rfl (lv_at hl 0 rfl) ?_
    refine zget (ci := 3) (C := RX3) (T := TX3) (N := 15) hx hb hts hi3 hown hK hP hNd.1 rfl rfl 5 (by decide) (hts (.fieldLink RX3 33 "LinCluster$Node" "statusPlace" "I") (by decide +kernel)) (fun _ h9 => h9) rfl dX3_bytesToSay_15 ?_
    refine lv_topi (fun v2 ev2 => ?_)
    refine lv_lshl hx hb dX3_bytesToSay_18 rfl ?_
    refine lv_topl (fun v3 ev3 => ?_)
    refine lv_lstore_n (lv' := [(2, .long v3), (0, .ref a), (1, .ref y)]) hx hb dX3_bytesToSay_19 rfl hl (by decide) rfl (fun ls hl => ?_)
    refine lv_aload_n hx hb dX3_bytesToSay_20 rfl (lv_at hl 1 rfl) ?_
    refine zget (ci := 3) (C := RX3) (T := TX3) (N := 15) hx hb hts hi3 hown hK hP hNd.1 rfl rfl 10 (by decide) (hts (.fieldLink RX3 49 "LinCluster$Node" "error" "Z") (by decide +kernel)) (fun _ h9 => h9) rfl dX3_bytesToSay_21 ?_
    refine lv_topi (fun v4 ev4 => ?_)
    refine lv_if_eq (tgt := 36) hx hb dX3_bytesToSay_24 (by decide) (fun c5 => ?_) (fun c5 => ?_)
    · skip
      refine lv_aload_n hx hb dX3_bytesToSay_36 rfl (lv_at hl 2 rfl) ?_
      refine zget (ci := 1) (C := RX1) (T := TX1) (N := 9) hx hb hts hi1 hown hK hP hF.1 rfl rfl 5 (by decide) (hts (.fieldLink RX3 133 "LinCluster$Frame" "bytes" "J") (by decide +kernel)) (fun _ h9 => h9) rfl dX3_bytesToSay_37 ?_
      refine lv_topl (fun v6 ev6 => ?_)
      refine lv_lload_n hx hb dX3_bytesToSay_40 rfl (lv_at hl 0 rfl) ?_
      refine lv_ldc2 (v := (-1)) hx hb hown (hts (.constantLong RX3 137 (-1)) (by decide +kernel)) dX3_bytesToSay_41 ?_
      refine lv_lxor hx hb dX3_bytesToSay_44 ?_
      refine lv_topl (fun v7 ev7 => ?_)
      refine lv_land hx hb dX3_bytesToSay_45 ?_
      refine lv_topl (fun v8 ev8 => ?_)
      exact W.lret (v := v8) hx hb hr (fun t ht hW => ⟨v8, rfl, trivial, ht⟩) (fun _ h => absurd h List.not_mem_nil) dX3_bytesToSay_46
    · skip
      refine lv_aload_n hx hb dX3_bytesToSay_27 rfl (lv_at hl 2 rfl) ?_
      refine zget (ci := 1) (C := RX1) (T := TX1) (N := 9) hx hb hts hi1 hown hK hP hF.1 rfl rfl 5 (by decide) (hts (.fieldLink RX3 133 "LinCluster$Frame" "bytes" "J") (by decide +kernel)) (fun _ h9 => h9) rfl dX3_bytesToSay_28 ?_
      refine lv_topl (fun v9 ev9 => ?_)
      refine lv_lload_n hx hb dX3_bytesToSay_31 rfl (lv_at hl 0 rfl) ?_
      refine lv_lor hx hb dX3_bytesToSay_32 ?_
      refine lv_topl (fun v10 ev10 => ?_)
      refine lv_goto (tgt := 46) hx hb dX3_bytesToSay_33 (by decide) ?_
      exact W.lret (v := v10) hx hb hr (fun t ht hW => ⟨v10, rfl, trivial, ht⟩) (fun _ h => absurd h List.not_mem_nil) dX3_bytesToSay_46
  · skip
    refine lv_aload_n hx hb dX3_bytesToSay_8 rfl (lv_at hl 1 rfl) ?_
    refine zget (ci := 1) (C := RX1) (T := TX1) (N := 9) hx hb hts hi1 hown hK hP hF.1 rfl rfl 5 (by decide) (hts (.fieldLink RX3 133 "LinCluster$Frame" "bytes" "J") (by decide +kernel)) (fun _ h9 => h9) rfl dX3_bytesToSay_9 ?_
    refine lv_topl (fun v11 ev11 => ?_)
    exact W.lret (v := v11) hx hb hr (fun t ht hW => ⟨v11, rfl, trivial, ht⟩) (fun _ h => absurd h List.not_mem_nil) dX3_bytesToSay_12
