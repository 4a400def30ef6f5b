set_option maxHeartbeats 4000000 in
set_option maxRecDepth 100000 in
theorem c_X4_begin (l : Launch) (dC : Nat → ClassId) (dI : Nat → Nat → Nat) (cy : Nat → ClassId) (G : zG) (S : zS) (sz : Nat) (a y ka ta : Nat) (b : Int64) (hO : zO G a 4) (hF : zFr G S y ka ta) : Met l yX4_begin wsX4_begin ({ frames := 0, cells := 0, slots := 0, locals := 0 }) (zP dC dI cy [.ref a, .ref y, .long b] G S sz) (va_Qv (fun S' => zSt G S S') (zB dC dI cy (zA cy G S sz) G) (zA cy G S sz)) 0 0 (zA cy G S sz) := by
  refine Met.ofW (cc := cX4_begin) (maxL := 4) (ret := none) (by decide) rfl ?_
  intro p e s m args below meth c s₁ B hml hv
  obtain ⟨rfl, hsz, hP, hK, hD0, hN⟩ := hv
  have hx := B.exec
  have hb := B.bytes
  have hr := B.returns
  have hts := atoms_spec (ws := wsX4_begin) B.pre
  have hown : s.vm.findClass RX4 = some m.cls := findClass_of_methodNamed B.named
  have hlocks := B.notSynchronized
  subst hsz
  have hD : va_D (zA cy G S s.heap.size) (zW cy G S) := hD0.self
  generalize hAe : zA cy G S s.heap.size = A at hD ⊢
  have hA : ∀ q : Nat, s.heap.size ≤ q → A q := fun q h => by rw [← hAe]; exact Or.inr h
  have hS : va_S A s.heap s.heap [] := va_S.rf
  have hst := zSt.refl G S
  have hl := lv_entry ([.ref a, .ref y, .long b]) (n := 4) (Nat.le_of_ble_eq_true rfl)
  rw [lg_entry_eq]
  generalize (lg_sl ([.ref a, .ref y, .long b]) ++ List.replicate (4 - (lg_sl ([.ref a, .ref y, .long b])).length) Slot.unset).toArray = ls at hl ⊢
  have hl : lv_has ls 4 [(0, .ref a), (1, .ref y), (2, .long b)] := hl
  have hi1 : ∀ w ∈ wsX10, w ∈ wsX4_begin := by decide +kernel
  have hi4 : ∀ w ∈ wsX40, w ∈ wsX4_begin := by decide +kernel
  refine lv_aload_n hx hb dX4_begin_0 rfl (lv_at hl 0 rfl) ?_
  refine lv_aload_n hx hb dX4_begin_1 rfl (lv_at hl 1 rfl) ?_
  refine zputq (ci := 4) (v := (some y)) (ty := .object "LinCluster$Frame") (C := RX4) (T := TX4) (N := 7) hx hb hts hi4 tyX4 tyX4_ok nmX4 hown hK hP hD hS hO rfl rfl 0 (by decide) (hts (.fieldLink RX4 9 "LinCluster$Response" "frame" "LLinCluster$Frame;") (by decide +kernel)) (fun _ h9 => h9) rfl (by decide +kernel) rfl rfl (Nat.le_of_ble_eq_true rfl) rfl dX4_begin_2 (fun H locs hP hD hS => ?_)
  have hst := hst.pq hO.2 ⟨ka, ta, hF⟩
  refine lv_aload_n hx hb dX4_begin_5 rfl (lv_at hl 0 rfl) ?_
  refine lv_aload_n hx hb dX4_begin_6 rfl (lv_at hl 1 rfl) ?_
  refine zget (ci := 1) (C := RX1) (T := TX1) (N := 9) hx hb hts hi1 hown hK hP hF.1 rfl rfl 1 (by decide) (hts (.fieldLink RX4 45 "LinCluster$Frame" "length" "I") (by decide +kernel)) (fun _ h9 => h9) rfl dX4_begin_7 ?_
  refine lv_topi (fun v1 ev1 => ?_)
  refine lv_iconst (v := 1) hx hb dX4_begin_10 (by decide) ?_
  refine lv_iadd hx hb dX4_begin_11 ?_
  refine lv_topi (fun v2 ev2 => ?_)
  refine zputi (ci := 4) (v := v2) (ty := .int) (C := RX4) (T := TX4) (N := 7) hx hb hts hi4 tyX4 tyX4_ok nmX4 hown hK hP hD hS hO rfl rfl 3 (by decide) (hts (.fieldLink RX4 23 "LinCluster$Response" "characters" "I") (by decide +kernel)) (fun _ h9 => h9) rfl (by decide +kernel) rfl rfl (Nat.le_of_ble_eq_true rfl) rfl dX4_begin_12 (fun H locs hP hD hS => ?_)
  have hst := hst.pi (k := 3) (v := v2) hO.2 rfl
  refine lv_aload_n hx hb dX4_begin_15 rfl (lv_at hl 0 rfl) ?_
  refine lv_lload_n hx hb dX4_begin_16 rfl (lv_at hl 2 rfl) ?_
  refine zputj (ci := 4) (v := b) (ty := .long) (C := RX4) (T := TX4) (N := 7) hx hb hts hi4 tyX4 tyX4_ok nmX4 hown hK hP hD hS hO rfl rfl 1 (by decide) (hts (.fieldLink RX4 15 "LinCluster$Response" "bytes" "J") (by decide +kernel)) (fun _ h9 => h9) rfl (by decide +kernel) rfl rfl (Nat.le_of_ble_eq_true rfl) rfl dX4_begin_17 (fun H locs hP hD hS => ?_)
  have hst := hst.pj (k := 1) (v := b) hO.2 rfl
  refine lv_aload_n hx hb dX4_begin_20 rfl (lv_at hl 0 rfl) ?_
  refine lv_iconst (v := 0) hx hb dX4_begin_21 (by decide) ?_
  refine zputi (ci := 4) (v := 0) (ty := .int) (C := RX4) (T := TX4) (N := 7) hx hb hts hi4 tyX4 tyX4_ok nmX4 hown hK hP hD hS hO rfl rfl 2 (by decide) (hts (.fieldLink RX4 19 "LinCluster$Response" "passed" "I") (by decide +kernel)) (fun _ h9 => h9) rfl (by decide +kernel) rfl rfl (Nat.le_of_ble_eq_true rfl) rfl dX4_begin_22 (fun H locs hP hD hS => ?_)
  have hst := hst.pi (k := 2) (v := 0) hO.2 rfl
  exact W.vret hx hb hr (fun t ht hW => ⟨⟨(zpi (zpj (zpi (zpq S a 0 (some y)) a 3 v2) a 1 b) a 2 0), rfl, hst, by rw [ht]; exact hP, va_K.moved hW.alike hK, hD⟩, hS.F ht⟩) hS.2.2 dX4_begin_25
set_option maxHeartbeats 4000000 in
set_option maxRecDepth 100000 in
theorem c_X4_beginSaying (l : Launch) (dC : Nat → ClassId) (dI : Nat → Nat → Nat) (cy : Nat → ClassId) (G : zG) (S : zS) (sz : Nat) (a y ka ta : Nat) (b : Int64) (n : Int32) (hO : zO G a 4) (hF : zFr G S y ka ta) : Met l yX4_beginSaying wsX4_beginSaying ({ frames := 1, cells := 0, slots := 0, locals := 26 }) (zP dC dI cy [.ref a, .ref y, .long b, .int n] G S sz) (va_Qv (fun S' => zSt G S S') (zB dC dI cy (zA cy G S sz) G) (zA cy G S sz)) 0 0 (zA cy G S sz) := by
  refine Met.ofW (cc := cX4_beginSaying) (maxL := 5) (ret := none) (by decide) rfl ?_
  intro p e s m args below meth c s₁ B hml hv
  obtain ⟨rfl, hsz, hP, hK, hD0, hN⟩ := hv
  have hx := B.exec
  have hb := B.bytes
  have hr := B.returns
  have hts := atoms_spec (ws := wsX4_beginSaying) B.pre
  have hown : s.vm.findClass RX4 = some m.cls := findClass_of_methodNamed B.named
  have hlocks := B.notSynchronized
  subst hsz
  have hD : va_D (zA cy G S s.heap.size) (zW cy G S) := hD0.self
  generalize hAe : zA cy G S s.heap.size = A at hD ⊢
  have hA : ∀ q : Nat, s.heap.size ≤ q → A q := fun q h => by rw [← hAe]; exact Or.inr h
  have hS : va_S A s.heap s.heap [] := va_S.rf
  have hst := zSt.refl G S
  have hl := lv_entry ([.ref a, .ref y, .long b, .int n]) (n := 5) (Nat.le_of_ble_eq_true rfl)
  rw [lg_entry_eq]
  generalize (lg_sl ([.ref a, .ref y, .long b, .int n]) ++ List.replicate (5 - (lg_sl ([.ref a, .ref y, .long b, .int n])).length) Slot.unset).toArray = ls at hl ⊢
  have hl : lv_has ls 5 [(0, .ref a), (1, .ref y), (2, .long b), (4, .int n)] := hl
  have hi4 : ∀ w ∈ wsX40, w ∈ wsX4_beginSaying := by decide +kernel
  refine lv_aload_n hx hb dX4_beginSaying_0 rfl (lv_at hl 0 rfl) ?_
  refine lv_aload_n hx hb dX4_beginSaying_1 rfl (lv_at hl 1 rfl) ?_
  refine lv_lload_n hx hb dX4_beginSaying_2 rfl (lv_at hl 2 rfl) ?_
  refine zcallv (va_runV (As := [.ref y, .long b]) (rest := []) ⟨hx, hb, hml, hown, hts⟩ (c_X4_begin l dC dI cy G S s.heap.size a y ka ta b hO (hst.fr hF)) (cwV 2 hts gX4_beginSaying_X4_begin rfl rfl rfl (by decide +kernel) ⟨Nat.le_of_ble_eq_true rfl, Nat.le_of_ble_eq_true rfl⟩) (zpreV hK hP hD hN (zrecv4 hK hP hO)) rfl rfl hl.1 rfl (lv_room (Nat.le_of_ble_eq_true rfl)) dX4_beginSaying_3 ⟨Nat.le_of_ble_eq_true rfl, Nat.le_of_ble_eq_true rfl⟩) hS hD hA (fun S2 H locs hr1 hP hD hS => ?_)
  have hst := hst.trans hr1
  refine lv_aload_n hx hb dX4_beginSaying_6 rfl (lv_at hl 0 rfl) ?_
  refine lv_aload_n hx hb dX4_beginSaying_7 rfl (lv_at hl 1 rfl) ?_
  refine lv_lload_n hx hb dX4_beginSaying_8 rfl (lv_at hl 2 rfl) ?_
  refine vp_callSi (va_Run.run (va_runV (As := [.long b]) (rest := [.ref a]) ⟨hx, hb, hml, hown, hts⟩ (c_X1_checksumOf l dC dI cy G S2 H.size y ka ta b (hst.fr hF)) (cwV 1 hts gX4_beginSaying_X1_checksumOf rfl rfl rfl (by decide +kernel) ⟨Nat.le_of_ble_eq_true rfl, Nat.le_of_ble_eq_true rfl⟩) (zpreV hK hP hD hN (zrecv1 hK hP hF.1)) rfl rfl hl.1 rfl (lv_room (Nat.le_of_ble_eq_true rfl)) dX4_beginSaying_9 ⟨Nat.le_of_ble_eq_true rfl, Nat.le_of_ble_eq_true rfl⟩)) (fun r3 hr3 => ?_)
  refine zputi (ci := 4) (v := r3) (ty := .int) (C := RX4) (T := TX4) (N := 7) hx hb hts hi4 tyX4 tyX4_ok nmX4 hown hK hP hD hS hO rfl rfl 4 (by decide) (hts (.fieldLink RX4 26 "LinCluster$Response" "checksum" "I") (by decide +kernel)) (fun _ h9 => h9) rfl (by decide +kernel) rfl rfl (Nat.le_of_ble_eq_true rfl) rfl dX4_beginSaying_12 (fun H locs hP hD hS => ?_)
  have hst := hst.pi (k := 4) (v := r3) hO.2 rfl
  refine lv_aload_n hx hb dX4_beginSaying_15 rfl (lv_at hl 0 rfl) ?_
  refine lv_iload hx hb dX4_beginSaying_16 (lv_at hl 3 rfl) ?_
  refine zputi (ci := 4) (v := n) (ty := .int) (C := RX4) (T := TX4) (N := 7) hx hb hts hi4 tyX4 tyX4_ok nmX4 hown hK hP hD hS hO rfl rfl 5 (by decide) (hts (.fieldLink RX4 29 "LinCluster$Response" "pause" "I") (by decide +kernel)) (fun _ h9 => h9) rfl (by decide +kernel) rfl rfl (Nat.le_of_ble_eq_true rfl) rfl dX4_beginSaying_18 (fun H locs hP hD hS => ?_)
  have hst := hst.pi (k := 5) (v := n) hO.2 rfl
  exact W.vret hx hb hr (fun t ht hW => ⟨⟨(zpi (zpi S2 a 4 r3) a 5 n), rfl, hst, by rw [ht]; exact hP, va_K.moved hW.alike hK, hD⟩, hS.F ht⟩) hS.2.2 dX4_beginSaying_21
set_option maxHeartbeats 4000000 in
set_option maxRecDepth 100000 in
theorem c_X4_beginTaking (l : Launch) (dC : Nat → ClassId) (dI : Nat → Nat → Nat) (cy : Nat → ClassId) (G : zG) (S : zS) (sz : Nat) (a y ka ta : Nat) (hO : zO G a 4) (hF : zFr G S y ka ta) : Met l yX4_beginTaking wsX4_beginTaking ({ frames := 1, cells := 0, slots := 0, locals := 23 }) (zP dC dI cy [.ref a, .ref y] G S sz) (va_Qv (fun S' => zSt G S S') (zB dC dI cy (zA cy G S sz) G) (zA cy G S sz)) 0 0 (zA cy G S sz) := by
  refine Met.ofW (cc := cX4_beginTaking) (maxL := 2) (ret := none) (by decide) rfl ?_
  intro p e s m args below meth c s₁ B hml hv
  obtain ⟨rfl, hsz, hP, hK, hD0, hN⟩ := hv
  have hx := B.exec
  have hb := B.bytes
  have hr := B.returns
  have hts := atoms_spec (ws := wsX4_beginTaking) B.pre
  have hown : s.vm.findClass RX4 = some m.cls := findClass_of_methodNamed B.named
  have hlocks := B.notSynchronized
  subst hsz
  have hD : va_D (zA cy G S s.heap.size) (zW cy G S) := hD0.self
  generalize hAe : zA cy G S s.heap.size = A at hD ⊢
  have hA : ∀ q : Nat, s.heap.size ≤ q → A q := fun q h => by rw [← hAe]; exact Or.inr h
  have hS : va_S A s.heap s.heap [] := va_S.rf
  have hst := zSt.refl G S
  have hl := lv_entry ([.ref a, .ref y]) (n := 2) (Nat.le_of_ble_eq_true rfl)
  rw [lg_entry_eq]
  generalize (lg_sl ([.ref a, .ref y]) ++ List.replicate (2 - (lg_sl ([.ref a, .ref y])).length) Slot.unset).toArray = ls at hl ⊢
  have hl : lv_has ls 2 [(0, .ref a), (1, .ref y)] := hl
  have hi4 : ∀ w ∈ wsX40, w ∈ wsX4_beginTaking := by decide +kernel
  refine lv_aload_n hx hb dX4_beginTaking_0 rfl (lv_at hl 0 rfl) ?_
  refine lv_aload_n hx hb dX4_beginTaking_1 rfl (lv_at hl 1 rfl) ?_
  refine lv_lconst (v := 0) hx hb dX4_beginTaking_2 (by decide) ?_
  refine zcallv (va_runV (As := [.ref y, .long 0]) (rest := []) ⟨hx, hb, hml, hown, hts⟩ (c_X4_begin l dC dI cy G S s.heap.size a y ka ta 0 hO (hst.fr hF)) (cwV 2 hts gX4_beginTaking_X4_begin rfl rfl rfl (by decide +kernel) ⟨Nat.le_of_ble_eq_true rfl, Nat.le_of_ble_eq_true rfl⟩) (zpreV hK hP hD hN (zrecv4 hK hP hO)) rfl rfl hl.1 rfl (lv_room (Nat.le_of_ble_eq_true rfl)) dX4_beginTaking_3 ⟨Nat.le_of_ble_eq_true rfl, Nat.le_of_ble_eq_true rfl⟩) hS hD hA (fun S2 H locs hr1 hP hD hS => ?_)
  have hst := hst.trans hr1
  refine lv_aload_n hx hb dX4_beginTaking_6 rfl (lv_at hl 0 rfl) ?_
  refine lv_iconst (v := 0) hx hb dX4_beginTaking_7 (by decide) ?_
  refine zputi (ci := 4) (v := 0) (ty := .int) (C := RX4) (T := TX4) (N := 7) hx hb hts hi4 tyX4 tyX4_ok nmX4 hown hK hP hD hS hO rfl rfl 6 (by decide) (hts (.fieldLink RX4 32 "LinCluster$Response" "charactersTaken" "I") (by decide +kernel)) (fun _ h9 => h9) rfl (by decide +kernel) rfl rfl (Nat.le_of_ble_eq_true rfl) rfl dX4_beginTaking_8 (fun H locs hP hD hS => ?_)
  have hst := hst.pi (k := 6) (v := 0) hO.2 rfl
  exact W.vret hx hb hr (fun t ht hW => ⟨⟨(zpi S2 a 6 0), rfl, hst, by rw [ht]; exact hP, va_K.moved hW.alike hK, hD⟩, hS.F ht⟩) hS.2.2 dX4_beginTaking_11
set_option maxHeartbeats 4000000 in
set_option maxRecDepth 100000 in
theorem c_X4_bitToSay (l : Launch) (dC : Nat → ClassId) (dI : Nat → Nat → Nat) (cy : Nat → ClassId) (G : zG) (S : zS) (sz : Nat) (a : Nat) (hO : zO G a 4) : Met l yX4_bitToSay wsX4_bitToSay ({ frames := 1, cells := 0, slots := 0, locals := 22 }) (zP dC dI cy [.ref a] G S sz) (vp_Si (fun r => True)) 0 0 (fun _ => False) := by
  refine Met.ofW (cc := cX4_bitToSay) (maxL := 4) (ret := (some .int)) (by decide) rfl ?_
  intro p e s m args below meth c s₁ B hml hv
  obtain ⟨rfl, hsz, hP, hK, hD0, hN⟩ := hv
  have hx := B.exec
  have hb := B.bytes
  have hr := B.returns
  have hts := atoms_spec (ws := wsX4_bitToSay) B.pre
  have hown : s.vm.findClass RX4 = some m.cls := findClass_of_methodNamed B.named
  have hlocks := B.notSynchronized
  subst hsz
  have hD := hD0
  have hst := zSt.refl G S
  have hl := lv_entry ([.ref a]) (n := 4) (Nat.le_of_ble_eq_true rfl)
  rw [lg_entry_eq]
  generalize (lg_sl ([.ref a]) ++ List.replicate (4 - (lg_sl ([.ref a])).length) Slot.unset).toArray = ls at hl ⊢
  have hl : lv_has ls 4 [(0, .ref a)] := hl
  have hi4 : ∀ w ∈ wsX40, w ∈ wsX4_bitToSay := by decide +kernel
  refine lv_aload_n hx hb dX4_bitToSay_0 rfl (lv_at hl 0 rfl) ?_
  refine zget (ci := 4) (C := RX4) (T := TX4) (N := 7) hx hb hts hi4 hown hK hP hO rfl rfl 2 (by decide) (hts (.fieldLink RX4 19 "LinCluster$Response" "passed" "I") (by decide +kernel)) (fun _ h9 => h9) rfl dX4_bitToSay_1 ?_
  refine lv_topi (fun v1 ev1 => ?_)
  refine lv_aload_n hx hb dX4_bitToSay_4 rfl (lv_at hl 0 rfl) ?_
  refine zget (ci := 4) (C := RX4) (T := TX4) (N := 7) hx hb hts hi4 hown hK hP hO rfl rfl 5 (by decide) (hts (.fieldLink RX4 29 "LinCluster$Response" "pause" "I") (by decide +kernel)) (fun _ h9 => h9) rfl dX4_bitToSay_5 ?_
  refine lv_topi (fun v2 ev2 => ?_)
  refine lv_isub hx hb dX4_bitToSay_8 ?_
  refine lv_topi (fun v3 ev3 => ?_)
  refine lv_istore_n (lv' := [(1, .int v3), (0, .ref a)]) hx hb dX4_bitToSay_9 rfl hl (by decide) rfl (fun ls hl => ?_)
  refine lv_iload_n hx hb dX4_bitToSay_10 rfl (lv_at hl 0 rfl) ?_
  refine lv_if_ge (tgt := 16) hx hb dX4_bitToSay_11 (by decide) (fun c4 => ?_) (fun c4 => ?_)
  · skip
    refine lv_iload_n hx hb dX4_bitToSay_16 rfl (lv_at hl 0 rfl) ?_
    refine lv_bipush (v := 10) hx hb dX4_bitToSay_17 (by decide) ?_
    refine lv_idiv hx hb dX4_bitToSay_19 (by decide) ?_
    refine lv_topi (fun v5 ev5 => ?_)
    refine lv_istore_n (lv' := [(2, .int v5), (1, .int v3), (0, .ref a)]) hx hb dX4_bitToSay_20 rfl hl (by decide) rfl (fun ls hl => ?_)
    refine lv_iload_n hx hb dX4_bitToSay_21 rfl (lv_at hl 0 rfl) ?_
    refine lv_aload_n hx hb dX4_bitToSay_22 rfl (lv_at hl 2 rfl) ?_
    refine zget (ci := 4) (C := RX4) (T := TX4) (N := 7) hx hb hts hi4 hown hK hP hO rfl rfl 3 (by decide) (hts (.fieldLink RX4 23 "LinCluster$Response" "characters" "I") (by decide +kernel)) (fun _ h9 => h9) rfl dX4_bitToSay_23 ?_
    refine lv_topi (fun v6 ev6 => ?_)
    refine lv_iconst (v := 1) hx hb dX4_bitToSay_26 (by decide) ?_
    refine lv_isub hx hb dX4_bitToSay_27 ?_
    refine lv_topi (fun v7 ev7 => ?_)
    refine lv_icmp_ge (tgt := 42) hx hb dX4_bitToSay_28 (by decide) (fun c8 => ?_) (fun c8 => ?_)
    · skip
      refine lv_aload_n hx hb dX4_bitToSay_42 rfl (lv_at hl 2 rfl) ?_
      refine zget (ci := 4) (C := RX4) (T := TX4) (N := 7) hx hb hts hi4 hown hK hP hO rfl rfl 4 (by decide) (hts (.fieldLink RX4 26 "LinCluster$Response" "checksum" "I") (by decide +kernel)) (fun _ h9 => h9) rfl dX4_bitToSay_43 ?_
      refine lv_topi (fun v9 ev9 => ?_)
      refine lv_istore_n (lv' := [(3, .int v9), (2, .int v5), (1, .int v3), (0, .ref a)]) hx hb dX4_bitToSay_46 rfl hl (by decide) rfl (fun ls hl => ?_)
      refine lv_iload_n hx hb dX4_bitToSay_47 rfl (lv_at hl 0 rfl) ?_
      refine lv_iload_n hx hb dX4_bitToSay_48 rfl (lv_at hl 2 rfl) ?_
      refine lv_bipush (v := 10) hx hb dX4_bitToSay_49 (by decide) ?_
      refine lv_irem hx hb dX4_bitToSay_51 (by decide) ?_
      refine lv_topi (fun v10 ev10 => ?_)
      refine vp_callSi (va_Run.run (va_runSN (As := [.int v9, .int v10]) (rest := []) ⟨hx, hb, hml, hown, hts⟩ (c_X6_characterBit l v9 v10) ⟨va_cnB 2 hts gX4_bitToSay_X6_characterBit_n52 rfl rfl rfl (zN_X4_52 hN) (hts (.initialized RX6) (by decide +kernel)) (by decide +kernel) ⟨Nat.le_of_ble_eq_true rfl, Nat.le_of_ble_eq_true rfl⟩, hts (.static yX6_characterBit) (by decide +kernel), trivial⟩ zpreS0 rfl rfl hl.1 rfl (lv_room (Nat.le_of_ble_eq_true rfl)) dX4_bitToSay_52 ⟨Nat.le_of_ble_eq_true rfl, Nat.le_of_ble_eq_true rfl⟩)) (fun r11 hr11 => ?_)
      exact W.iret (v := r11) hx hb hr (fun t ht hW => ⟨r11, rfl, trivial, ht⟩) (fun _ h => absurd h List.not_mem_nil) dX4_bitToSay_55
    · skip
      refine lv_aload_n hx hb dX4_bitToSay_31 rfl (lv_at hl 2 rfl) ?_
      refine zget (ci := 4) (C := RX4) (T := TX4) (N := 7) hx hb hts hi4 hown hK hP hO rfl rfl 1 (by decide) (hts (.fieldLink RX4 15 "LinCluster$Response" "bytes" "J") (by decide +kernel)) (fun _ h9 => h9) rfl dX4_bitToSay_32 ?_
      refine lv_topl (fun v12 ev12 => ?_)
      refine lv_iload_n hx hb dX4_bitToSay_35 rfl (lv_at hl 0 rfl) ?_
      refine vp_callSi (va_Run.run (va_runSN (As := [.long v12, .int v5]) (rest := []) ⟨hx, hb, hml, hown, hts⟩ (c_X6_byteOf l v12 v5) ⟨va_cnB 2 hts gX4_bitToSay_X6_byteOf_n48 rfl rfl rfl (zN_X4_48 hN) (hts (.initialized RX6) (by decide +kernel)) (by decide +kernel) ⟨Nat.le_of_ble_eq_true rfl, Nat.le_of_ble_eq_true rfl⟩, hts (.static yX6_byteOf) (by decide +kernel), trivial⟩ zpreS0 rfl rfl hl.1 rfl (lv_room (Nat.le_of_ble_eq_true rfl)) dX4_bitToSay_36 ⟨Nat.le_of_ble_eq_true rfl, Nat.le_of_ble_eq_true rfl⟩)) (fun r13 hr13 => ?_)
      refine lv_goto (tgt := 46) hx hb dX4_bitToSay_39 (by decide) ?_
      refine lv_istore_n (lv' := [(3, .int r13), (2, .int v5), (1, .int v3), (0, .ref a)]) hx hb dX4_bitToSay_46 rfl hl (by decide) rfl (fun ls hl => ?_)
      refine lv_iload_n hx hb dX4_bitToSay_47 rfl (lv_at hl 0 rfl) ?_
      refine lv_iload_n hx hb dX4_bitToSay_48 rfl (lv_at hl 2 rfl) ?_
      refine lv_bipush (v := 10) hx hb dX4_bitToSay_49 (by decide) ?_
      refine lv_irem hx hb dX4_bitToSay_51 (by decide) ?_
      refine lv_topi (fun v14 ev14 => ?_)
      refine vp_callSi (va_Run.run (va_runSN (As := [.int r13, .int v14]) (rest := []) ⟨hx, hb, hml, hown, hts⟩ (c_X6_characterBit l r13 v14) ⟨va_cnB 2 hts gX4_bitToSay_X6_characterBit_n52 rfl rfl rfl (zN_X4_52 hN) (hts (.initialized RX6) (by decide +kernel)) (by decide +kernel) ⟨Nat.le_of_ble_eq_true rfl, Nat.le_of_ble_eq_true rfl⟩, hts (.static yX6_characterBit) (by decide +kernel), trivial⟩ zpreS0 rfl rfl hl.1 rfl (lv_room (Nat.le_of_ble_eq_true rfl)) dX4_bitToSay_52 ⟨Nat.le_of_ble_eq_true rfl, Nat.le_of_ble_eq_true rfl⟩)) (fun r15 hr15 => ?_)
      exact W.iret (v := r15) hx hb hr (fun t ht hW => ⟨r15, rfl, trivial, ht⟩) (fun _ h => absurd h List.not_mem_nil) dX4_bitToSay_55
  · skip
    refine lv_iconst (v := 1) hx hb dX4_bitToSay_14 (by decide) ?_
    exact W.iret (v := 1) hx hb hr (fun t ht hW => ⟨1, rfl, trivial, ht⟩) (fun _ h => absurd h List.not_mem_nil) dX4_bitToSay_15
set_option maxHeartbeats 4000000 in
set_option maxRecDepth 100000 in
theorem c_X4_isSaid (l : Launch) (dC : Nat → ClassId) (dI : Nat → Nat → Nat) (cy : Nat → ClassId) (G : zG) (S : zS) (sz : Nat) (a : Nat) (hO : zO G a 4) : Met l yX4_isSaid wsX4_isSaid ({ frames := 0, cells := 0, slots := 0, locals := 0 }) (zP dC dI cy [.ref a] G S sz) (vp_Si (fun r => True)) 0 0 (fun _ => False) := by
  refine Met.ofW (cc := cX4_isSaid) (maxL := 1) (ret := (some .boolean)) (by decide) rfl ?_
  intro p e s m args below meth c s₁ B hml hv
  obtain ⟨rfl, hsz, hP, hK, hD0, hN⟩ := hv
  have hx := B.exec
  have hb := B.bytes
  have hr := B.returns
  have hts := atoms_spec (ws := wsX4_isSaid) B.pre
  have hown : s.vm.findClass RX4 = some m.cls := findClass_of_methodNamed B.named
  have hlocks := B.notSynchronized
  subst hsz
  have hD := hD0
  have hst := zSt.refl G S
  have hl := lv_entry ([.ref a]) (n := 1) (Nat.le_of_ble_eq_true rfl)
  rw [lg_entry_eq]
  generalize (lg_sl ([.ref a]) ++ List.replicate (1 - (lg_sl ([.ref a])).length) Slot.unset).toArray = ls at hl ⊢
  have hl : lv_has ls 1 [(0, .ref a)] := hl
  have hi4 : ∀ w ∈ wsX40, w ∈ wsX4_isSaid := by decide +kernel
  refine lv_aload_n hx hb dX4_isSaid_0 rfl (lv_at hl 0 rfl) ?_
  refine zget (ci := 4) (C := RX4) (T := TX4) (N := 7) hx hb hts hi4 hown hK hP hO rfl rfl 2 (by decide) (hts (.fieldLink RX4 19 "LinCluster$Response" "passed" "I") (by decide +kernel)) (fun _ h9 => h9) rfl dX4_isSaid_1 ?_
  refine lv_topi (fun v1 ev1 => ?_)
  refine lv_aload_n hx hb dX4_isSaid_4 rfl (lv_at hl 0 rfl) ?_
  refine zget (ci := 4) (C := RX4) (T := TX4) (N := 7) hx hb hts hi4 hown hK hP hO rfl rfl 5 (by decide) (hts (.fieldLink RX4 29 "LinCluster$Response" "pause" "I") (by decide +kernel)) (fun _ h9 => h9) rfl dX4_isSaid_5 ?_
  refine lv_topi (fun v2 ev2 => ?_)
  refine lv_bipush (v := 10) hx hb dX4_isSaid_8 (by decide) ?_
  refine lv_aload_n hx hb dX4_isSaid_10 rfl (lv_at hl 0 rfl) ?_
  refine zget (ci := 4) (C := RX4) (T := TX4) (N := 7) hx hb hts hi4 hown hK hP hO rfl rfl 3 (by decide) (hts (.fieldLink RX4 23 "LinCluster$Response" "characters" "I") (by decide +kernel)) (fun _ h9 => h9) rfl dX4_isSaid_11 ?_
  refine lv_topi (fun v3 ev3 => ?_)
  refine lv_imul hx hb dX4_isSaid_14 ?_
  refine lv_topi (fun v4 ev4 => ?_)
  refine lv_iadd hx hb dX4_isSaid_15 ?_
  refine lv_topi (fun v5 ev5 => ?_)
  refine lv_icmp_lt (tgt := 23) hx hb dX4_isSaid_16 (by decide) (fun c6 => ?_) (fun c6 => ?_)
  · skip
    refine lv_iconst (v := 0) hx hb dX4_isSaid_23 (by decide) ?_
    exact W.zret (v := 0) (ty := .boolean) hx hb hr rfl (fun t ht hW => ⟨0, rfl, trivial, ht⟩) (fun _ h => absurd h List.not_mem_nil) dX4_isSaid_24
  · skip
    refine lv_iconst (v := 1) hx hb dX4_isSaid_19 (by decide) ?_
    refine lv_goto (tgt := 24) hx hb dX4_isSaid_20 (by decide) ?_
    exact W.zret (v := 1) (ty := .boolean) hx hb hr rfl (fun t ht hW => ⟨1, rfl, trivial, ht⟩) (fun _ h => absurd h List.not_mem_nil) dX4_isSaid_24
set_option maxHeartbeats 4000000 in
set_option maxRecDepth 100000 in
theorem c_X4_isTaken (l : Launch) (dC : Nat → ClassId) (dI : Nat → Nat → Nat) (cy : Nat → ClassId) (G : zG) (S : zS) (sz : Nat) (a : Nat) (hO : zO G a 4) : Met l yX4_isTaken wsX4_isTaken ({ frames := 0, cells := 0, slots := 0, locals := 0 }) (zP dC dI cy [.ref a] G S sz) (vp_Si (fun r => True)) 0 0 (fun _ => False) := by
  refine Met.ofW (cc := cX4_isTaken) (maxL := 1) (ret := (some .boolean)) (by decide) rfl ?_
  intro p e s m args below meth c s₁ B hml hv
  obtain ⟨rfl, hsz, hP, hK, hD0, hN⟩ := hv
  have hx := B.exec
  have hb := B.bytes
  have hr := B.returns
  have hts := atoms_spec (ws := wsX4_isTaken) B.pre
  have hown : s.vm.findClass RX4 = some m.cls := findClass_of_methodNamed B.named
  have hlocks := B.notSynchronized
  subst hsz
  have hD := hD0
  have hst := zSt.refl G S
  have hl := lv_entry ([.ref a]) (n := 1) (Nat.le_of_ble_eq_true rfl)
  rw [lg_entry_eq]
  generalize (lg_sl ([.ref a]) ++ List.replicate (1 - (lg_sl ([.ref a])).length) Slot.unset).toArray = ls at hl ⊢
  have hl : lv_has ls 1 [(0, .ref a)] := hl
  have hi4 : ∀ w ∈ wsX40, w ∈ wsX4_isTaken := by decide +kernel
  refine lv_aload_n hx hb dX4_isTaken_0 rfl (lv_at hl 0 rfl) ?_
  refine zget (ci := 4) (C := RX4) (T := TX4) (N := 7) hx hb hts hi4 hown hK hP hO rfl rfl 6 (by decide) (hts (.fieldLink RX4 32 "LinCluster$Response" "charactersTaken" "I") (by decide +kernel)) (fun _ h9 => h9) rfl dX4_isTaken_1 ?_
  refine lv_topi (fun v1 ev1 => ?_)
  refine lv_aload_n hx hb dX4_isTaken_4 rfl (lv_at hl 0 rfl) ?_
  refine zget (ci := 4) (C := RX4) (T := TX4) (N := 7) hx hb hts hi4 hown hK hP hO rfl rfl 3 (by decide) (hts (.fieldLink RX4 23 "LinCluster$Response" "characters" "I") (by decide +kernel)) (fun _ h9 => h9) rfl dX4_isTaken_5 ?_
  refine lv_topi (fun v2 ev2 => ?_)
  refine lv_icmp_lt (tgt := 15) hx hb dX4_isTaken_8 (by decide) (fun c3 => ?_) (fun c3 => ?_)
  · skip
    refine lv_iconst (v := 0) hx hb dX4_isTaken_15 (by decide) ?_
    exact W.zret (v := 0) (ty := .boolean) hx hb hr rfl (fun t ht hW => ⟨0, rfl, trivial, ht⟩) (fun _ h => absurd h List.not_mem_nil) dX4_isTaken_16
  · skip
    refine lv_iconst (v := 1) hx hb dX4_isTaken_11 (by decide) ?_
    refine lv_goto (tgt := 16) hx hb dX4_isTaken_12 (by decide) ?_
    exact W.zret (v := 1) (ty := .boolean) hx hb hr rfl (fun t ht hW => ⟨1, rfl, trivial, ht⟩) (fun _ h => absurd h List.not_mem_nil) dX4_isTaken_16
set_option maxHeartbeats 4000000 in
set_option maxRecDepth 100000 in
theorem c_X4_isLate (l : Launch) (dC : Nat → ClassId) (dI : Nat → Nat → Nat) (cy : Nat → ClassId) (G : zG) (S : zS) (sz : Nat) (a : Nat) (hO : zO G a 4) : Met l yX4_isLate wsX4_isLate ({ frames := 0, cells := 0, slots := 0, locals := 0 }) (zP dC dI cy [.ref a] G S sz) (vp_Si (fun r => True)) 0 0 (fun _ => False) := by
  refine Met.ofW (cc := cX4_isLate) (maxL := 1) (ret := (some .boolean)) (by decide) rfl ?_
  intro p e s m args below meth c s₁ B hml hv
  obtain ⟨rfl, hsz, hP, hK, hD0, hN⟩ := hv
  have hx := B.exec
  have hb := B.bytes
  have hr := B.returns
  have hts := atoms_spec (ws := wsX4_isLate) B.pre
  have hown : s.vm.findClass RX4 = some m.cls := findClass_of_methodNamed B.named
  have hlocks := B.notSynchronized
  subst hsz
  have hD := hD0
  have hst := zSt.refl G S
  have hl := lv_entry ([.ref a]) (n := 1) (Nat.le_of_ble_eq_true rfl)
  rw [lg_entry_eq]
  generalize (lg_sl ([.ref a]) ++ List.replicate (1 - (lg_sl ([.ref a])).length) Slot.unset).toArray = ls at hl ⊢
  have hl : lv_has ls 1 [(0, .ref a)] := hl
  have hi4 : ∀ w ∈ wsX40, w ∈ wsX4_isLate := by decide +kernel
  refine lv_aload_n hx hb dX4_isLate_0 rfl (lv_at hl 0 rfl) ?_
  refine zget (ci := 4) (C := RX4) (T := TX4) (N := 7) hx hb hts hi4 hown hK hP hO rfl rfl 2 (by decide) (hts (.fieldLink RX4 19 "LinCluster$Response" "passed" "I") (by decide +kernel)) (fun _ h9 => h9) rfl dX4_isLate_1 ?_
  refine lv_topi (fun v1 ev1 => ?_)
  refine lv_bipush (v := 14) hx hb dX4_isLate_4 (by decide) ?_
  refine lv_aload_n hx hb dX4_isLate_6 rfl (lv_at hl 0 rfl) ?_
  refine zget (ci := 4) (C := RX4) (T := TX4) (N := 7) hx hb hts hi4 hown hK hP hO rfl rfl 3 (by decide) (hts (.fieldLink RX4 23 "LinCluster$Response" "characters" "I") (by decide +kernel)) (fun _ h9 => h9) rfl dX4_isLate_7 ?_
  refine lv_topi (fun v2 ev2 => ?_)
  refine lv_imul hx hb dX4_isLate_10 ?_
  refine lv_topi (fun v3 ev3 => ?_)
  refine lv_icmp_lt (tgt := 18) hx hb dX4_isLate_11 (by decide) (fun c4 => ?_) (fun c4 => ?_)
  · skip
    refine lv_iconst (v := 0) hx hb dX4_isLate_18 (by decide) ?_
    exact W.zret (v := 0) (ty := .boolean) hx hb hr rfl (fun t ht hW => ⟨0, rfl, trivial, ht⟩) (fun _ h => absurd h List.not_mem_nil) dX4_isLate_19
  · skip
    refine lv_iconst (v := 1) hx hb dX4_isLate_14 (by decide) ?_
    refine lv_goto (tgt := 19) hx hb dX4_isLate_15 (by decide) ?_
    exact W.zret (v := 1) (ty := .boolean) hx hb hr rfl (fun t ht hW => ⟨1, rfl, trivial, ht⟩) (fun _ h => absurd h List.not_mem_nil) dX4_isLate_19
set_option maxHeartbeats 4000000 in
set_option maxRecDepth 100000 in
theorem c_X4_addCharacter (l : Launch) (dC : Nat → ClassId) (dI : Nat → Nat → Nat) (cy : Nat → ClassId) (G : zG) (S : zS) (sz : Nat) (a : Nat) (n : Int32) (hO : zO G a 4) : Met l yX4_addCharacter wsX4_addCharacter ({ frames := 0, cells := 0, slots := 0, locals := 0 }) (zP dC dI cy [.ref a, .int n] G S sz) (va_Qv (fun S' => zSt G S S') (zB dC dI cy (zA cy G S sz) G) (zA cy G S sz)) 0 0 (zA cy G S sz) := by
  refine Met.ofW (cc := cX4_addCharacter) (maxL := 2) (ret := none) (by decide) rfl ?_
  intro p e s m args below meth c s₁ B hml hv
  obtain ⟨rfl, hsz, hP, hK, hD0, hN⟩ := hv
  have hx := B.exec
  have hb := B.bytes
  have hr := B.returns
  have hts := atoms_spec (ws := wsX4_addCharacter) B.pre
  have hown : s.vm.findClass RX4 = some m.cls := findClass_of_methodNamed B.named
  have hlocks := B.notSynchronized
  subst hsz
  have hD : va_D (zA cy G S s.heap.size) (zW cy G S) := hD0.self
  generalize hAe : zA cy G S s.heap.size = A at hD ⊢
  have hA : ∀ q : Nat, s.heap.size ≤ q → A q := fun q h => by rw [← hAe]; exact Or.inr h
  have hS : va_S A s.heap s.heap [] := va_S.rf
  have hst := zSt.refl G S
  have hl := lv_entry ([.ref a, .int n]) (n := 2) (Nat.le_of_ble_eq_true rfl)
  rw [lg_entry_eq]
  generalize (lg_sl ([.ref a, .int n]) ++ List.replicate (2 - (lg_sl ([.ref a, .int n])).length) Slot.unset).toArray = ls at hl ⊢
  have hl : lv_has ls 2 [(0, .ref a), (1, .int n)] := hl
  have hi4 : ∀ w ∈ wsX40, w ∈ wsX4_addCharacter := by decide +kernel
  refine lv_aload_n hx hb dX4_addCharacter_0 rfl (lv_at hl 0 rfl) ?_
  refine zget (ci := 4) (C := RX4) (T := TX4) (N := 7) hx hb hts hi4 hown hK hP hO rfl rfl 6 (by decide) (hts (.fieldLink RX4 32 "LinCluster$Response" "charactersTaken" "I") (by decide +kernel)) (fun _ h9 => h9) rfl dX4_addCharacter_1 ?_
  refine lv_topi (fun v1 ev1 => ?_)
  refine lv_aload_n hx hb dX4_addCharacter_4 rfl (lv_at hl 0 rfl) ?_
  refine zget (ci := 4) (C := RX4) (T := TX4) (N := 7) hx hb hts hi4 hown hK hP hO rfl rfl 3 (by decide) (hts (.fieldLink RX4 23 "LinCluster$Response" "characters" "I") (by decide +kernel)) (fun _ h9 => h9) rfl dX4_addCharacter_5 ?_
  refine lv_topi (fun v2 ev2 => ?_)
  refine lv_iconst (v := 1) hx hb dX4_addCharacter_8 (by decide) ?_
  refine lv_isub hx hb dX4_addCharacter_9 ?_
  refine lv_topi (fun v3 ev3 => ?_)
  refine lv_icmp_ge (tgt := 35) hx hb dX4_addCharacter_10 (by decide) (fun c4 => ?_) (fun c4 => ?_)
  · skip
    refine lv_aload_n hx hb dX4_addCharacter_35 rfl (lv_at hl 0 rfl) ?_
    refine lv_iload_n hx hb dX4_addCharacter_36 rfl (lv_at hl 1 rfl) ?_
    refine zputi (ci := 4) (v := n) (ty := .int) (C := RX4) (T := TX4) (N := 7) hx hb hts hi4 tyX4 tyX4_ok nmX4 hown hK hP hD hS hO rfl rfl 4 (by decide) (hts (.fieldLink RX4 26 "LinCluster$Response" "checksum" "I") (by decide +kernel)) (fun _ h9 => h9) rfl (by decide +kernel) rfl rfl (Nat.le_of_ble_eq_true rfl) rfl dX4_addCharacter_37 (fun H locs hP hD hS => ?_)
    have hst := hst.pi (k := 4) (v := n) hO.2 rfl
    refine lv_aload_n hx hb dX4_addCharacter_40 rfl (lv_at hl 0 rfl) ?_
    refine lv_dup hx hb dX4_addCharacter_41 rfl ?_
    refine zget (ci := 4) (C := RX4) (T := TX4) (N := 7) hx hb hts hi4 hown hK hP hO rfl rfl 6 (by decide) (hts (.fieldLink RX4 32 "LinCluster$Response" "charactersTaken" "I") (by decide +kernel)) (fun _ h9 => h9) rfl dX4_addCharacter_42 ?_
    refine lv_topi (fun v5 ev5 => ?_)
    refine lv_iconst (v := 1) hx hb dX4_addCharacter_45 (by decide) ?_
    refine lv_iadd hx hb dX4_addCharacter_46 ?_
    refine lv_topi (fun v6 ev6 => ?_)
    refine zputi (ci := 4) (v := v6) (ty := .int) (C := RX4) (T := TX4) (N := 7) hx hb hts hi4 tyX4 tyX4_ok nmX4 hown hK hP hD hS hO rfl rfl 6 (by decide) (hts (.fieldLink RX4 32 "LinCluster$Response" "charactersTaken" "I") (by decide +kernel)) (fun _ h9 => h9) rfl (by decide +kernel) rfl rfl (Nat.le_of_ble_eq_true rfl) rfl dX4_addCharacter_47 (fun H locs hP hD hS => ?_)
    have hst := hst.pi (k := 6) (v := v6) hO.2 rfl
    exact W.vret hx hb hr (fun t ht hW => ⟨⟨(zpi (zpi S a 4 n) a 6 v6), rfl, hst, by rw [ht]; exact hP, va_K.moved hW.alike hK, hD⟩, hS.F ht⟩) hS.2.2 dX4_addCharacter_50
  · skip
    refine lv_aload_n hx hb dX4_addCharacter_13 rfl (lv_at hl 0 rfl) ?_
    refine lv_dup hx hb dX4_addCharacter_14 rfl ?_
    refine zget (ci := 4) (C := RX4) (T := TX4) (N := 7) hx hb hts hi4 hown hK hP hO rfl rfl 1 (by decide) (hts (.fieldLink RX4 15 "LinCluster$Response" "bytes" "J") (by decide +kernel)) (fun _ h9 => h9) rfl dX4_addCharacter_15 ?_
    refine lv_topl (fun v7 ev7 => ?_)
    refine lv_iload_n hx hb dX4_addCharacter_18 rfl (lv_at hl 1 rfl) ?_
    refine lv_i2l hx hb dX4_addCharacter_19 rfl ?_
    refine lv_topl (fun v8 ev8 => ?_)
    refine lv_bipush (v := 8) hx hb dX4_addCharacter_20 (by decide) ?_
    refine lv_aload_n hx hb dX4_addCharacter_22 rfl (lv_at hl 0 rfl) ?_
    refine zget (ci := 4) (C := RX4) (T := TX4) (N := 7) hx hb hts hi4 hown hK hP hO rfl rfl 6 (by decide) (hts (.fieldLink RX4 32 "LinCluster$Response" "charactersTaken" "I") (by decide +kernel)) (fun _ h9 => h9) rfl dX4_addCharacter_23 ?_
    refine lv_topi (fun v9 ev9 => ?_)
    refine lv_imul hx hb dX4_addCharacter_26 ?_
    refine lv_topi (fun v10 ev10 => ?_)
    refine lv_lshl hx hb dX4_addCharacter_27 rfl ?_
    refine lv_topl (fun v11 ev11 => ?_)
    refine lv_lor hx hb dX4_addCharacter_28 ?_
    refine lv_topl (fun v12 ev12 => ?_)
    refine zputj (ci := 4) (v := v12) (ty := .long) (C := RX4) (T := TX4) (N := 7) hx hb hts hi4 tyX4 tyX4_ok nmX4 hown hK hP hD hS hO rfl rfl 1 (by decide) (hts (.fieldLink RX4 15 "LinCluster$Response" "bytes" "J") (by decide +kernel)) (fun _ h9 => h9) rfl (by decide +kernel) rfl rfl (Nat.le_of_ble_eq_true rfl) rfl dX4_addCharacter_29 (fun H locs hP hD hS => ?_)
    have hst := hst.pj (k := 1) (v := v12) hO.2 rfl
    refine lv_goto (tgt := 40) hx hb dX4_addCharacter_32 (by decide) ?_
    refine lv_aload_n hx hb dX4_addCharacter_40 rfl (lv_at hl 0 rfl) ?_
    refine lv_dup hx hb dX4_addCharacter_41 rfl ?_
    refine zget (ci := 4) (C := RX4) (T := TX4) (N := 7) hx hb hts hi4 hown hK hP hO rfl rfl 6 (by decide) (hts (.fieldLink RX4 32 "LinCluster$Response" "charactersTaken" "I") (by decide +kernel)) (fun _ h9 => h9) rfl dX4_addCharacter_42 ?_
    refine lv_topi (fun v13 ev13 => ?_)
    refine lv_iconst (v := 1) hx hb dX4_addCharacter_45 (by decide) ?_
    refine lv_iadd hx hb dX4_addCharacter_46 ?_
    refine lv_topi (fun v14 ev14 => ?_)
    refine zputi (ci := 4) (v := v14) (ty := .int) (C := RX4) (T := TX4) (N := 7) hx hb hts hi4 tyX4 tyX4_ok nmX4 hown hK hP hD hS hO rfl rfl 6 (by decide) (hts (.fieldLink RX4 32 "LinCluster$Response" "charactersTaken" "I") (by decide +kernel)) (fun _ h9 => h9) rfl (by decide +kernel) rfl rfl (Nat.le_of_ble_eq_true rfl) rfl dX4_addCharacter_47 (fun H locs hP hD hS => ?_)
    have hst := hst.pi (k := 6) (v := v14) hO.2 rfl
    exact W.vret hx hb hr (fun t ht hW => ⟨⟨(zpi (zpj S a 1 v12) a 6 v14), rfl, hst, by rw [ht]; exact hP, va_K.moved hW.alike hK, hD⟩, hS.F ht⟩) hS.2.2 dX4_addCharacter_50
set_option maxHeartbeats 4000000 in
set_option maxRecDepth 100000 in
theorem c_X4_isRight (l : Launch) (dC : Nat → ClassId) (dI : Nat → Nat → Nat) (cy : Nat → ClassId) (G : zG) (S : zS) (sz : Nat) (a : Nat) (hO : zO G a 4) (hRf : zRf G S) : Met l yX4_isRight wsX4_isRight ({ frames := 1, cells := 0, slots := 0, locals := 26 }) (zP dC dI cy [.ref a] G S sz) (vp_Si (fun r => True)) 0 0 (fun _ => False) := by
  refine Met.ofW (cc := cX4_isRight) (maxL := 1) (ret := (some .boolean)) (by decide) rfl ?_
  intro p e s m args below meth c s₁ B hml hv
  obtain ⟨rfl, hsz, hP, hK, hD0, hN⟩ := hv
  have hx := B.exec
  have hb := B.bytes
  have hr := B.returns
  have hts := atoms_spec (ws := wsX4_isRight) B.pre
  have hown : s.vm.findClass RX4 = some m.cls := findClass_of_methodNamed B.named
  have hlocks := B.notSynchronized
  subst hsz
  have hD := hD0
  have hst := zSt.refl G S
  have hl := lv_entry ([.ref a]) (n := 1) (Nat.le_of_ble_eq_true rfl)
  rw [lg_entry_eq]
  generalize (lg_sl ([.ref a]) ++ List.replicate (1 - (lg_sl ([.ref a])).length) Slot.unset).toArray = ls at hl ⊢
  have hl : lv_has ls 1 [(0, .ref a)] := hl
  have hi4 : ∀ w ∈ wsX40, w ∈ wsX4_isRight := by decide +kernel
  refine lv_aload_n hx hb dX4_isRight_0 rfl (lv_at hl 0 rfl) ?_
  refine zget (ci := 4) (C := RX4) (T := TX4) (N := 7) hx hb hts hi4 hown hK hP hO rfl rfl 0 (by decide) (hts (.fieldLink RX4 9 "LinCluster$Response" "frame" "LLinCluster$Frame;") (by decide +kernel)) (fun _ h9 => h9) rfl dX4_isRight_1 ?_
  rcases hq2 : S.2.2 a 0 with _ | y1
  · refine W.eq (g2 := F0 m 4 ls [.null]) rfl ?_
    refine lv_ifnullN (tgt := 29) hx hb dX4_isRight_4 (by decide) ?_
    refine lv_iconst (v := 0) hx hb dX4_isRight_29 (by decide) ?_
    exact W.zret (v := 0) (ty := .boolean) hx hb hr rfl (fun t ht hW => ⟨0, rfl, trivial, ht⟩) (fun _ h => absurd h List.not_mem_nil) dX4_isRight_30
  · refine W.eq (g2 := F0 m 4 ls [.ref y1]) rfl ?_
    obtain ⟨k3, t4, hF5⟩ := hst.feb (hst.rf hRf a y1 hO.2 hq2)
    refine lv_ifnull hx hb dX4_isRight_4 ?_
    refine lv_aload_n hx hb dX4_isRight_7 rfl (lv_at hl 0 rfl) ?_
    refine zget (ci := 4) (C := RX4) (T := TX4) (N := 7) hx hb hts hi4 hown hK hP hO rfl rfl 4 (by decide) (hts (.fieldLink RX4 26 "LinCluster$Response" "checksum" "I") (by decide +kernel)) (fun _ h9 => h9) rfl dX4_isRight_8 ?_
    refine lv_topi (fun v6 ev6 => ?_)
    refine lv_aload_n hx hb dX4_isRight_11 rfl (lv_at hl 0 rfl) ?_
    refine zget (ci := 4) (C := RX4) (T := TX4) (N := 7) hx hb hts hi4 hown hK hP hO rfl rfl 0 (by decide) (hts (.fieldLink RX4 9 "LinCluster$Response" "frame" "LLinCluster$Frame;") (by decide +kernel)) (fun _ h9 => h9) (v := .ref y1) (congrArg (fun z => some (va_rf z)) (hq2)) dX4_isRight_12 ?_
    refine lv_aload_n hx hb dX4_isRight_15 rfl (lv_at hl 0 rfl) ?_
    refine zget (ci := 4) (C := RX4) (T := TX4) (N := 7) hx hb hts hi4 hown hK hP hO rfl rfl 1 (by decide) (hts (.fieldLink RX4 15 "LinCluster$Response" "bytes" "J") (by decide +kernel)) (fun _ h9 => h9) rfl dX4_isRight_16 ?_
    refine lv_topl (fun v7 ev7 => ?_)
    refine vp_callSi (va_Run.run (va_runV (As := [.long v7]) (rest := [.int v6]) ⟨hx, hb, hml, hown, hts⟩ (c_X1_checksumOf l dC dI cy G S s.heap.size y1 k3 t4 v7 (hst.fr hF5)) (cwV 1 hts gX4_isRight_X1_checksumOf rfl rfl rfl (by decide +kernel) ⟨Nat.le_of_ble_eq_true rfl, Nat.le_of_ble_eq_true rfl⟩) (zpreV hK hP hD hN (zrecv1 hK hP hF5.1)) rfl rfl hl.1 rfl (lv_room (Nat.le_of_ble_eq_true rfl)) dX4_isRight_19 ⟨Nat.le_of_ble_eq_true rfl, Nat.le_of_ble_eq_true rfl⟩)) (fun r8 hr8 => ?_)
    refine lv_icmp_ne (tgt := 29) hx hb dX4_isRight_22 (by decide) (fun c9 => ?_) (fun c9 => ?_)
    · skip
      refine lv_iconst (v := 0) hx hb dX4_isRight_29 (by decide) ?_
      exact W.zret (v := 0) (ty := .boolean) hx hb hr rfl (fun t ht hW => ⟨0, rfl, trivial, ht⟩) (fun _ h => absurd h List.not_mem_nil) dX4_isRight_30
    · skip
      refine lv_iconst (v := 1) hx hb dX4_isRight_25 (by decide) ?_
      refine lv_goto (tgt := 30) hx hb dX4_isRight_26 (by decide) ?_
      exact W.zret (v := 1) (ty := .boolean) hx hb hr rfl (fun t ht hW => ⟨1, rfl, trivial, ht⟩) (fun _ h => absurd h List.not_mem_nil) dX4_isRight_30
set_option maxHeartbeats 4000000 in
set_option maxRecDepth 100000 in
theorem c_X4_sendsToSleep (l : Launch) (dC : Nat → ClassId) (dI : Nat → Nat → Nat) (cy : Nat → ClassId) (G : zG) (S : zS) (sz : Nat) (a : Nat) (hO : zO G a 4) (hRf : zRf G S) : Met l yX4_sendsToSleep wsX4_sendsToSleep ({ frames := 0, cells := 0, slots := 0, locals := 0 }) (zP dC dI cy [.ref a] G S sz) (vp_Si (fun r => True)) 0 0 (fun _ => False) := by
  refine Met.ofW (cc := cX4_sendsToSleep) (maxL := 1) (ret := (some .boolean)) (by decide) rfl ?_
  intro p e s m args below meth c s₁ B hml hv
  obtain ⟨rfl, hsz, hP, hK, hD0, hN⟩ := hv
  have hx := B.exec
  have hb := B.bytes
  have hr := B.returns
  have hts := atoms_spec (ws := wsX4_sendsToSleep) B.pre
  have hown : s.vm.findClass RX4 = some m.cls := findClass_of_methodNamed B.named
  have hlocks := B.notSynchronized
  subst hsz
  have hD := hD0
  have hst := zSt.refl G S
  have hl := lv_entry ([.ref a]) (n := 1) (Nat.le_of_ble_eq_true rfl)
  rw [lg_entry_eq]
  generalize (lg_sl ([.ref a]) ++ List.replicate (1 - (lg_sl ([.ref a])).length) Slot.unset).toArray = ls at hl ⊢
  have hl : lv_has ls 1 [(0, .ref a)] := hl
  have hi1 : ∀ w ∈ wsX10, w ∈ wsX4_sendsToSleep := by decide +kernel
  have hi4 : ∀ w ∈ wsX40, w ∈ wsX4_sendsToSleep := by decide +kernel
  refine lv_aload_n hx hb dX4_sendsToSleep_0 rfl (lv_at hl 0 rfl) ?_
  refine zget (ci := 4) (C := RX4) (T := TX4) (N := 7) hx hb hts hi4 hown hK hP hO rfl rfl 0 (by decide) (hts (.fieldLink RX4 9 "LinCluster$Response" "frame" "LLinCluster$Frame;") (by decide +kernel)) (fun _ h9 => h9) rfl dX4_sendsToSleep_1 ?_
  rcases hq2 : S.2.2 a 0 with _ | y1
  · refine W.eq (g2 := F0 m 4 ls [.null]) rfl ?_
    refine lv_ifnullN (tgt := 36) hx hb dX4_sendsToSleep_4 (by decide) ?_
    refine lv_iconst (v := 0) hx hb dX4_sendsToSleep_36 (by decide) ?_
    exact W.zret (v := 0) (ty := .boolean) hx hb hr rfl (fun t ht hW => ⟨0, rfl, trivial, ht⟩) (fun _ h => absurd h List.not_mem_nil) dX4_sendsToSleep_37
  · refine W.eq (g2 := F0 m 4 ls [.ref y1]) rfl ?_
    obtain ⟨k3, t4, hF5⟩ := hst.feb (hst.rf hRf a y1 hO.2 hq2)
    refine lv_ifnull hx hb dX4_sendsToSleep_4 ?_
    refine lv_aload_n hx hb dX4_sendsToSleep_7 rfl (lv_at hl 0 rfl) ?_
    refine zget (ci := 4) (C := RX4) (T := TX4) (N := 7) hx hb hts hi4 hown hK hP hO rfl rfl 0 (by decide) (hts (.fieldLink RX4 9 "LinCluster$Response" "frame" "LLinCluster$Frame;") (by decide +kernel)) (fun _ h9 => h9) (v := .ref y1) (congrArg (fun z => some (va_rf z)) (hq2)) dX4_sendsToSleep_8 ?_
    refine zget (ci := 1) (C := RX1) (T := TX1) (N := 9) hx hb hts hi1 hown hK hP hF5.1 rfl rfl 0 (by decide) (hts (.fieldLink RX4 56 "LinCluster$Frame" "id" "I") (by decide +kernel)) (fun _ h9 => h9) rfl dX4_sendsToSleep_11 ?_
    refine lv_topi (fun v6 ev6 => ?_)
    refine lv_bipush (v := 60) hx hb dX4_sendsToSleep_14 (by decide) ?_
    refine lv_icmp_ne (tgt := 36) hx hb dX4_sendsToSleep_16 (by decide) (fun c7 => ?_) (fun c7 => ?_)
    · skip
      refine lv_iconst (v := 0) hx hb dX4_sendsToSleep_36 (by decide) ?_
      exact W.zret (v := 0) (ty := .boolean) hx hb hr rfl (fun t ht hW => ⟨0, rfl, trivial, ht⟩) (fun _ h => absurd h List.not_mem_nil) dX4_sendsToSleep_37
    · skip
      refine lv_aload_n hx hb dX4_sendsToSleep_19 rfl (lv_at hl 0 rfl) ?_
      refine zget (ci := 4) (C := RX4) (T := TX4) (N := 7) hx hb hts hi4 hown hK hP hO rfl rfl 1 (by decide) (hts (.fieldLink RX4 15 "LinCluster$Response" "bytes" "J") (by decide +kernel)) (fun _ h9 => h9) rfl dX4_sendsToSleep_20 ?_
      refine lv_topl (fun v8 ev8 => ?_)
      refine lv_ldc2 (v := 255) hx hb hown (hts (.constantLong RX4 59 255) (by decide +kernel)) dX4_sendsToSleep_23 ?_
      refine lv_land hx hb dX4_sendsToSleep_26 ?_
      refine lv_topl (fun v9 ev9 => ?_)
      refine lv_lconst (v := 0) hx hb dX4_sendsToSleep_27 (by decide) ?_
      refine W.lcmp hx hb dX4_sendsToSleep_28 ?_
      refine lv_topi (fun v10 ev10 => ?_)
      refine lv_if_ne (tgt := 36) hx hb dX4_sendsToSleep_29 (by decide) (fun c11 => ?_) (fun c11 => ?_)
      · skip
        refine lv_iconst (v := 0) hx hb dX4_sendsToSleep_36 (by decide) ?_
        exact W.zret (v := 0) (ty := .boolean) hx hb hr rfl (fun t ht hW => ⟨0, rfl, trivial, ht⟩) (fun _ h => absurd h List.not_mem_nil) dX4_sendsToSleep_37
      · skip
        refine lv_iconst (v := 1) hx hb dX4_sendsToSleep_32 (by decide) ?_
        refine lv_goto (tgt := 37) hx hb dX4_sendsToSleep_33 (by decide) ?_
        exact W.zret (v := 1) (ty := .boolean) hx hb hr rfl (fun t ht hW => ⟨1, rfl, trivial, ht⟩) (fun _ h => absurd h List.not_mem_nil) dX4_sendsToSleep_37
