set_option maxHeartbeats 4000000 in
set_option maxRecDepth 100000 in
theorem c_X5_headerBit (l : Launch) (dC : Nat → ClassId) (dI : Nat → Nat → Nat) (cy : Nat → ClassId) (G : zG) (S : zS) (sz : Nat) (a : Nat) (n : Int32) (hO : zO G a 5) : Met l yX5_headerBit wsX5_headerBit ({ frames := 1, cells := 0, slots := 0, locals := 21 }) (zP dC dI cy [.ref a, .int n] G S sz) (vp_Si (fun r => True)) 0 0 (fun _ => False) := by
  refine Met.ofW (cc := cX5_headerBit) (maxL := 2) (ret := (some .int)) (by decide) rfl ?_
  intro p e s m args below meth c s₁ B hml hv
  obtain ⟨rfl, hsz, hP, hK, hD0, hN⟩ := hv
  have hx := B.exec
  have hb := B.bytes
  have hr := B.returns
  have hts := atoms_spec (ws := wsX5_headerBit) B.pre
  have hown : s.vm.findClass RX5 = some m.cls := findClass_of_methodNamed B.named
  have hlocks := B.notSynchronized
  subst hsz
  have hD := hD0
  have hst := zSt.refl G S
  have hl := lv_entry ([.ref a, .int n]) (n := 2) (Nat.le_of_ble_eq_true rfl)
  rw [lg_entry_eq]
  generalize (lg_sl ([.ref a, .int n]) ++ List.replicate (2 - (lg_sl ([.ref a, .int n])).length) Slot.unset).toArray = ls at hl ⊢
  have hl : lv_has ls 2 [(0, .ref a), (1, .int n)] := hl
  have hi5 : ∀ w ∈ wsX50, w ∈ wsX5_headerBit := by decide +kernel
  refine lv_iload_n hx hb dX5_headerBit_0 rfl (lv_at hl 1 rfl) ?_
  refine lv_bipush (v := 13) hx hb dX5_headerBit_1 (by decide) ?_
  refine lv_icmp_ge (tgt := 8) hx hb dX5_headerBit_3 (by decide) (fun c1 => ?_) (fun c1 => ?_)
  · skip
    refine lv_iload_n hx hb dX5_headerBit_8 rfl (lv_at hl 1 rfl) ?_
    refine lv_bipush (v := 14) hx hb dX5_headerBit_9 (by decide) ?_
    refine lv_icmp_lt (tgt := 20) hx hb dX5_headerBit_11 (by decide) (fun c2 => ?_) (fun c2 => ?_)
    · skip
      refine lv_iconst (v := 1) hx hb dX5_headerBit_20 (by decide) ?_
      exact W.iret (v := 1) hx hb hr (fun t ht hW => ⟨1, rfl, trivial, ht⟩) (fun _ h => absurd h List.not_mem_nil) dX5_headerBit_21
    · skip
      refine lv_iload_n hx hb dX5_headerBit_14 rfl (lv_at hl 1 rfl) ?_
      refine lv_bipush (v := 34) hx hb dX5_headerBit_15 (by decide) ?_
      refine lv_icmp_lt (tgt := 22) hx hb dX5_headerBit_17 (by decide) (fun c3 => ?_) (fun c3 => ?_)
      · skip
        refine lv_iload_n hx hb dX5_headerBit_22 rfl (lv_at hl 1 rfl) ?_
        refine lv_bipush (v := 24) hx hb dX5_headerBit_23 (by decide) ?_
        refine lv_icmp_ge (tgt := 40) hx hb dX5_headerBit_25 (by decide) (fun c4 => ?_) (fun c4 => ?_)
        · skip
          refine lv_aload_n hx hb dX5_headerBit_40 rfl (lv_at hl 0 rfl) ?_
          refine zget (ci := 5) (C := RX5) (T := TX5) (N := 10) hx hb hts hi5 hown hK hP hO rfl rfl 7 (by decide) (hts (.fieldLink RX5 34 "LinCluster$Schedule" "pid" "I") (by decide +kernel)) (fun _ h9 => h9) rfl dX5_headerBit_41 ?_
          refine lv_topi (fun v5 ev5 => ?_)
          refine lv_iload_n hx hb dX5_headerBit_44 rfl (lv_at hl 1 rfl) ?_
          refine lv_bipush (v := 24) hx hb dX5_headerBit_45 (by decide) ?_
          refine lv_isub hx hb dX5_headerBit_47 ?_
          refine lv_topi (fun v6 ev6 => ?_)
          refine vp_callSi (va_Run.run (va_runSN (As := [.int v5, .int v6]) (rest := []) ⟨hx, hb, hml, hown, hts⟩ (c_X6_characterBit l v5 v6) ⟨va_cnB 2 hts gX5_headerBit_X6_characterBit_n55 rfl rfl rfl (zN_X5_55 hN) (hts (.initialized RX6) (by decide +kernel)) (by decide +kernel) ⟨Nat.le_of_ble_eq_true rfl, Nat.le_of_ble_eq_true rfl⟩, hts (.static yX6_characterBit) (by decide +kernel), trivial⟩ zpreS0 rfl rfl hl.1 rfl (lv_room (Nat.le_of_ble_eq_true rfl)) dX5_headerBit_48 ⟨Nat.le_of_ble_eq_true rfl, Nat.le_of_ble_eq_true rfl⟩)) (fun r7 hr7 => ?_)
          exact W.iret (v := r7) hx hb hr (fun t ht hW => ⟨r7, rfl, trivial, ht⟩) (fun _ h => absurd h List.not_mem_nil) dX5_headerBit_51
        · skip
          refine lv_bipush (v := 85) hx hb dX5_headerBit_28 (by decide) ?_
          refine lv_iload_n hx hb dX5_headerBit_30 rfl (lv_at hl 1 rfl) ?_
          refine lv_bipush (v := 14) hx hb dX5_headerBit_31 (by decide) ?_
          refine lv_isub hx hb dX5_headerBit_33 ?_
          refine lv_topi (fun v8 ev8 => ?_)
          refine vp_callSi (va_Run.run (va_runSN (As := [.int 85, .int v8]) (rest := []) ⟨hx, hb, hml, hown, hts⟩ (c_X6_characterBit l 85 v8) ⟨va_cnB 2 hts gX5_headerBit_X6_characterBit_n55 rfl rfl rfl (zN_X5_55 hN) (hts (.initialized RX6) (by decide +kernel)) (by decide +kernel) ⟨Nat.le_of_ble_eq_true rfl, Nat.le_of_ble_eq_true rfl⟩, hts (.static yX6_characterBit) (by decide +kernel), trivial⟩ zpreS0 rfl rfl hl.1 rfl (lv_room (Nat.le_of_ble_eq_true rfl)) dX5_headerBit_34 ⟨Nat.le_of_ble_eq_true rfl, Nat.le_of_ble_eq_true rfl⟩)) (fun r9 hr9 => ?_)
          refine lv_goto (tgt := 51) hx hb dX5_headerBit_37 (by decide) ?_
          exact W.iret (v := r9) hx hb hr (fun t ht hW => ⟨r9, rfl, trivial, ht⟩) (fun _ h => absurd h List.not_mem_nil) dX5_headerBit_51
      · skip
        refine lv_iconst (v := 1) hx hb dX5_headerBit_20 (by decide) ?_
        exact W.iret (v := 1) hx hb hr (fun t ht hW => ⟨1, rfl, trivial, ht⟩) (fun _ h => absurd h List.not_mem_nil) dX5_headerBit_21
  · skip
    refine lv_iconst (v := 0) hx hb dX5_headerBit_6 (by decide) ?_
    exact W.iret (v := 0) hx hb hr (fun t ht hW => ⟨0, rfl, trivial, ht⟩) (fun _ h => absurd h List.not_mem_nil) dX5_headerBit_7
set_option maxHeartbeats 4000000 in
set_option maxRecDepth 100000 in
theorem c_X5_begin (l : Launch) (dC : Nat → ClassId) (dI : Nat → Nat → Nat) (cy : Nat → ClassId) (G : zG) (S : zS) (sz : Nat) (a ia na : Nat) (n : Int32) (hSc : zSc G S a ia na) : Met l yX5_begin wsX5_begin ({ frames := 1, cells := 0, slots := 0, locals := 22 }) (zP dC dI cy [.ref a, .int n] G S sz) (va_Qv (fun S' => zSt G S S') (zB dC dI cy (zA cy G S sz) G) (zA cy G S sz)) 0 0 (zA cy G S sz) := by
  refine Met.ofW (cc := cX5_begin) (maxL := 2) (ret := none) (by decide) rfl ?_
  intro p e s m args below meth c s₁ B hml hv
  obtain ⟨rfl, hsz, hP, hK, hD0, hN⟩ := hv
  have hx := B.exec
  have hb := B.bytes
  have hr := B.returns
  have hts := atoms_spec (ws := wsX5_begin) B.pre
  have hown : s.vm.findClass RX5 = some m.cls := findClass_of_methodNamed B.named
  have hlocks := B.notSynchronized
  subst hsz
  have hD : va_D (zA cy G S s.heap.size) (zW cy G S) := hD0.self
  generalize hAe : zA cy G S s.heap.size = A at hD ⊢
  have hA : ∀ q : Nat, s.heap.size ≤ q → A q := fun q h => by rw [← hAe]; exact Or.inr h
  have hS : va_S A s.heap s.heap [] := va_S.rf
  have hst := zSt.refl G S
  have hl := lv_entry ([.ref a, .int n]) (n := 2) (Nat.le_of_ble_eq_true rfl)
  rw [lg_entry_eq]
  generalize (lg_sl ([.ref a, .int n]) ++ List.replicate (2 - (lg_sl ([.ref a, .int n])).length) Slot.unset).toArray = ls at hl ⊢
  have hl : lv_has ls 2 [(0, .ref a), (1, .int n)] := hl
  have hi5 : ∀ w ∈ wsX50, w ∈ wsX5_begin := by decide +kernel
  refine lv_iload_n hx hb dX5_begin_0 rfl (lv_at hl 1 rfl) ?_
  refine lv_if_lt (tgt := 10) hx hb dX5_begin_1 (by decide) (fun c1 => ?_) (fun c1 => ?_)
  · skip
    exact W.vret hx hb hr (fun t ht hW => ⟨⟨S, rfl, hst, by rw [ht]; exact hP, va_K.moved hW.alike hK, hD⟩, hS.F ht⟩) hS.2.2 dX5_begin_10
  · skip
    refine lv_iload_n hx hb dX5_begin_4 rfl (lv_at hl 1 rfl) ?_
    refine lv_bipush (v := 16) hx hb dX5_begin_5 (by decide) ?_
    refine lv_icmp_lt (tgt := 11) hx hb dX5_begin_7 (by decide) (fun c2 => ?_) (fun c2 => ?_)
    · skip
      refine lv_aload_n hx hb dX5_begin_11 rfl (lv_at hl 0 rfl) ?_
      refine lv_iload_n hx hb dX5_begin_12 rfl (lv_at hl 1 rfl) ?_
      refine zputi (ci := 5) (v := n) (ty := .int) (C := RX5) (T := TX5) (N := 10) hx hb hts hi5 tyX5 tyX5_ok nmX5 hown hK hP hD hS hSc.1 rfl rfl 3 (by decide) (hts (.fieldLink RX5 22 "LinCluster$Schedule" "atHand" "I") (by decide +kernel)) (fun _ h9 => h9) rfl (by decide +kernel) rfl rfl (Nat.le_of_ble_eq_true rfl) rfl dX5_begin_13 (fun H locs hP hD hS => ?_)
      have hst := hst.pi (k := 3) (v := n) hSc.1.2 rfl
      refine lv_aload_n hx hb dX5_begin_16 rfl (lv_at hl 0 rfl) ?_
      refine lv_dup hx hb dX5_begin_17 rfl ?_
      refine zget (ci := 5) (C := RX5) (T := TX5) (N := 10) hx hb hts hi5 hown hK hP hSc.1 rfl rfl 4 (by decide) (hts (.fieldLink RX5 25 "LinCluster$Schedule" "begun" "I") (by decide +kernel)) (fun _ h9 => h9) rfl dX5_begin_18 ?_
      refine lv_topi (fun v3 ev3 => ?_)
      refine lv_iconst (v := 1) hx hb dX5_begin_21 (by decide) ?_
      refine lv_iadd hx hb dX5_begin_22 ?_
      refine lv_topi (fun v4 ev4 => ?_)
      refine zputi (ci := 5) (v := v4) (ty := .int) (C := RX5) (T := TX5) (N := 10) hx hb hts hi5 tyX5 tyX5_ok nmX5 hown hK hP hD hS hSc.1 rfl rfl 4 (by decide) (hts (.fieldLink RX5 25 "LinCluster$Schedule" "begun" "I") (by decide +kernel)) (fun _ h9 => h9) rfl (by decide +kernel) rfl rfl (Nat.le_of_ble_eq_true rfl) rfl dX5_begin_23 (fun H locs hP hD hS => ?_)
      have hst := hst.pi (k := 4) (v := v4) hSc.1.2 rfl
      refine lv_aload_n hx hb dX5_begin_26 rfl (lv_at hl 0 rfl) ?_
      refine lv_iconst (v := 0) hx hb dX5_begin_27 (by decide) ?_
      refine zputi (ci := 5) (v := 0) (ty := .int) (C := RX5) (T := TX5) (N := 10) hx hb hts hi5 tyX5 tyX5_ok nmX5 hown hK hP hD hS hSc.1 rfl rfl 5 (by decide) (hts (.fieldLink RX5 28 "LinCluster$Schedule" "bitsSaid" "I") (by decide +kernel)) (fun _ h9 => h9) rfl (by decide +kernel) rfl rfl (Nat.le_of_ble_eq_true rfl) rfl dX5_begin_28 (fun H locs hP hD hS => ?_)
      have hst := hst.pi (k := 5) (v := 0) hSc.1.2 rfl
      refine lv_aload_n hx hb dX5_begin_31 rfl (lv_at hl 0 rfl) ?_
      refine lv_aload_n hx hb dX5_begin_32 rfl (lv_at hl 0 rfl) ?_
      refine zget (ci := 5) (C := RX5) (T := TX5) (N := 10) hx hb hts hi5 hown hK hP hSc.1 rfl rfl 1 (by decide) (hts (.fieldLink RX5 15 "LinCluster$Schedule" "lengths" "[I") (by decide +kernel)) (fun _ h9 => h9) (v := .ref na) (congrArg (fun z => some (va_rf z)) ((hst.sc hSc).2.2.1)) dX5_begin_33 ?_
      refine lv_iload_n hx hb dX5_begin_36 rfl (lv_at hl 1 rfl) ?_
      refine ziald hx hb hK hP hSc.2.2.2.2.2.1 hSc.2.2.2.2.2.2 (zin' (M := 16) (by decide) c1 c2) dX5_begin_37 ?_
      refine lv_topi (fun v5 ev5 => ?_)
      refine zputi (ci := 5) (v := v5) (ty := .int) (C := RX5) (T := TX5) (N := 10) hx hb hts hi5 tyX5 tyX5_ok nmX5 hown hK hP hD hS hSc.1 rfl rfl 6 (by decide) (hts (.fieldLink RX5 31 "LinCluster$Schedule" "bitsOfSlot" "I") (by decide +kernel)) (fun _ h9 => h9) rfl (by decide +kernel) rfl rfl (Nat.le_of_ble_eq_true rfl) rfl dX5_begin_38 (fun H locs hP hD hS => ?_)
      have hst := hst.pi (k := 6) (v := v5) hSc.1.2 rfl
      refine lv_aload_n hx hb dX5_begin_41 rfl (lv_at hl 0 rfl) ?_
      refine lv_aload_n hx hb dX5_begin_42 rfl (lv_at hl 0 rfl) ?_
      refine zget (ci := 5) (C := RX5) (T := TX5) (N := 10) hx hb hts hi5 hown hK hP hSc.1 rfl rfl 0 (by decide) (hts (.fieldLink RX5 9 "LinCluster$Schedule" "ids" "[I") (by decide +kernel)) (fun _ h9 => h9) (v := .ref ia) (congrArg (fun z => some (va_rf z)) ((hst.sc hSc).2.1)) dX5_begin_43 ?_
      refine lv_iload_n hx hb dX5_begin_46 rfl (lv_at hl 1 rfl) ?_
      refine ziald hx hb hK hP hSc.2.2.2.1 hSc.2.2.2.2.1 (zin' (M := 16) (by decide) c1 c2) dX5_begin_47 ?_
      refine lv_topi (fun v6 ev6 => ?_)
      refine vp_callSi (va_Run.run (va_runSN (As := [.int v6]) (rest := [.ref a]) ⟨hx, hb, hml, hown, hts⟩ (c_X6_pidOf l v6) ⟨va_cnB 1 hts gX5_begin_X6_pidOf_n52 rfl rfl rfl (zN_X5_52 hN) (hts (.initialized RX6) (by decide +kernel)) (by decide +kernel) ⟨Nat.le_of_ble_eq_true rfl, Nat.le_of_ble_eq_true rfl⟩, hts (.static yX6_pidOf) (by decide +kernel), trivial⟩ zpreS0 rfl rfl hl.1 rfl (lv_room (Nat.le_of_ble_eq_true rfl)) dX5_begin_48 ⟨Nat.le_of_ble_eq_true rfl, Nat.le_of_ble_eq_true rfl⟩)) (fun r7 hr7 => ?_)
      refine zputi (ci := 5) (v := r7) (ty := .int) (C := RX5) (T := TX5) (N := 10) hx hb hts hi5 tyX5 tyX5_ok nmX5 hown hK hP hD hS hSc.1 rfl rfl 7 (by decide) (hts (.fieldLink RX5 34 "LinCluster$Schedule" "pid" "I") (by decide +kernel)) (fun _ h9 => h9) rfl (by decide +kernel) rfl rfl (Nat.le_of_ble_eq_true rfl) rfl dX5_begin_51 (fun H locs hP hD hS => ?_)
      have hst := hst.pi (k := 7) (v := r7) hSc.1.2 rfl
      exact W.vret hx hb hr (fun t ht hW => ⟨⟨(zpi (zpi (zpi (zpi (zpi S a 3 n) a 4 v4) a 5 0) a 6 v5) a 7 r7), rfl, hst, by rw [ht]; exact hP, va_K.moved hW.alike hK, hD⟩, hS.F ht⟩) hS.2.2 dX5_begin_54
    · skip
      exact W.vret hx hb hr (fun t ht hW => ⟨⟨S, rfl, hst, by rw [ht]; exact hP, va_K.moved hW.alike hK, hD⟩, hS.F ht⟩) hS.2.2 dX5_begin_10
set_option maxHeartbeats 4000000 in
set_option maxRecDepth 100000 in
theorem c_X5_nextBit (l : Launch) (dC : Nat → ClassId) (dI : Nat → Nat → Nat) (cy : Nat → ClassId) (G : zG) (S : zS) (sz : Nat) (a ia na : Nat) (hSc : zSc G S a ia na) : Met l yX5_nextBit wsX5_nextBit ({ frames := 2, cells := 0, slots := 0, locals := 43 }) (zP dC dI cy [.ref a] G S sz) (va_Qi (fun (r : Int32) S' => zSt G S S') (zB dC dI cy (zA cy G S sz) G) (zA cy G S sz)) 0 0 (zA cy G S sz) := by
  refine Met.ofW (cc := cX5_nextBit) (maxL := 2) (ret := (some .int)) (by decide) rfl ?_
  intro p e s m args below meth c s₁ B hml hv
  obtain ⟨rfl, hsz, hP, hK, hD0, hN⟩ := hv
  have hx := B.exec
  have hb := B.bytes
  have hr := B.returns
  have hts := atoms_spec (ws := wsX5_nextBit) B.pre
  have hown : s.vm.findClass RX5 = some m.cls := findClass_of_methodNamed B.named
  have hlocks := B.notSynchronized
  subst hsz
  have hD : va_D (zA cy G S s.heap.size) (zW cy G S) := hD0.self
  generalize hAe : zA cy G S s.heap.size = A at hD ⊢
  have hA : ∀ q : Nat, s.heap.size ≤ q → A q := fun q h => by rw [← hAe]; exact Or.inr h
  have hS : va_S A s.heap s.heap [] := va_S.rf
  have hst := zSt.refl G S
  have hl := lv_entry ([.ref a]) (n := 2) (Nat.le_of_ble_eq_true rfl)
  rw [lg_entry_eq]
  generalize (lg_sl ([.ref a]) ++ List.replicate (2 - (lg_sl ([.ref a])).length) Slot.unset).toArray = ls at hl ⊢
  have hl : lv_has ls 2 [(0, .ref a)] := hl
  have hi5 : ∀ w ∈ wsX50, w ∈ wsX5_nextBit := by decide +kernel
  refine lv_aload_n hx hb dX5_nextBit_0 rfl (lv_at hl 0 rfl) ?_
  refine zget (ci := 5) (C := RX5) (T := TX5) (N := 10) hx hb hts hi5 hown hK hP hSc.1 rfl rfl 9 (by decide) (hts (.fieldLink RX5 40 "LinCluster$Schedule" "stopped" "Z") (by decide +kernel)) (fun _ h9 => h9) rfl dX5_nextBit_1 ?_
  refine lv_topi (fun v1 ev1 => ?_)
  refine lv_if_ne (tgt := 14) hx hb dX5_nextBit_4 (by decide) (fun c2 => ?_) (fun c2 => ?_)
  · skip
    refine lv_iconst (v := 1) hx hb dX5_nextBit_14 (by decide) ?_
    exact W.iret (v := 1) hx hb hr (fun t ht hW => ⟨⟨1, S, rfl, hst, by rw [ht]; exact hP, va_K.moved hW.alike hK, hD⟩, hS.F ht⟩) hS.2.2 dX5_nextBit_15
  · skip
    refine lv_aload_n hx hb dX5_nextBit_7 rfl (lv_at hl 0 rfl) ?_
    refine zget (ci := 5) (C := RX5) (T := TX5) (N := 10) hx hb hts hi5 hown hK hP hSc.1 rfl rfl 2 (by decide) (hts (.fieldLink RX5 18 "LinCluster$Schedule" "slots" "I") (by decide +kernel)) (fun _ h9 => h9) rfl dX5_nextBit_8 ?_
    refine lv_topi (fun v3 ev3 => ?_)
    refine lv_if_ne (tgt := 16) hx hb dX5_nextBit_11 (by decide) (fun c4 => ?_) (fun c4 => ?_)
    · skip
      refine lv_aload_n hx hb dX5_nextBit_16 rfl (lv_at hl 0 rfl) ?_
      refine zget (ci := 5) (C := RX5) (T := TX5) (N := 10) hx hb hts hi5 hown hK hP hSc.1 rfl rfl 8 (by decide) (hts (.fieldLink RX5 37 "LinCluster$Schedule" "pause" "I") (by decide +kernel)) (fun _ h9 => h9) rfl dX5_nextBit_17 ?_
      refine lv_topi (fun v5 ev5 => ?_)
      refine lv_if_le (tgt := 35) hx hb dX5_nextBit_20 (by decide) (fun c6 => ?_) (fun c6 => ?_)
      · skip
        refine lv_aload_n hx hb dX5_nextBit_35 rfl (lv_at hl 0 rfl) ?_
        refine zget (ci := 5) (C := RX5) (T := TX5) (N := 10) hx hb hts hi5 hown hK hP hSc.1 rfl rfl 3 (by decide) (hts (.fieldLink RX5 22 "LinCluster$Schedule" "atHand" "I") (by decide +kernel)) (fun _ h9 => h9) rfl dX5_nextBit_36 ?_
        refine lv_topi (fun v7 ev7 => ?_)
        refine lv_iconst (v := (-1)) hx hb dX5_nextBit_39 (by decide) ?_
        refine lv_icmp_eq (tgt := 54) hx hb dX5_nextBit_40 (by decide) (fun c8 => ?_) (fun c8 => ?_)
        · skip
          refine lv_aload_n hx hb dX5_nextBit_54 rfl (lv_at hl 0 rfl) ?_
          refine lv_aload_n hx hb dX5_nextBit_55 rfl (lv_at hl 0 rfl) ?_
          refine zget (ci := 5) (C := RX5) (T := TX5) (N := 10) hx hb hts hi5 hown hK hP hSc.1 rfl rfl 3 (by decide) (hts (.fieldLink RX5 22 "LinCluster$Schedule" "atHand" "I") (by decide +kernel)) (fun _ h9 => h9) rfl dX5_nextBit_56 ?_
          refine lv_topi (fun v9 ev9 => ?_)
          refine lv_iconst (v := 1) hx hb dX5_nextBit_59 (by decide) ?_
          refine lv_iadd hx hb dX5_nextBit_60 ?_
          refine lv_topi (fun v10 ev10 => ?_)
          refine lv_aload_n hx hb dX5_nextBit_61 rfl (lv_at hl 0 rfl) ?_
          refine zget (ci := 5) (C := RX5) (T := TX5) (N := 10) hx hb hts hi5 hown hK hP hSc.1 rfl rfl 2 (by decide) (hts (.fieldLink RX5 18 "LinCluster$Schedule" "slots" "I") (by decide +kernel)) (fun _ h9 => h9) rfl dX5_nextBit_62 ?_
          refine lv_topi (fun v11 ev11 => ?_)
          refine lv_icmp_ge (tgt := 77) hx hb dX5_nextBit_65 (by decide) (fun c12 => ?_) (fun c12 => ?_)
          · skip
            refine lv_iconst (v := 0) hx hb dX5_nextBit_77 (by decide) ?_
            refine zcallv (va_runV (As := [.int 0]) (rest := []) ⟨hx, hb, hml, hown, hts⟩ (c_X5_begin l dC dI cy G S s.heap.size a ia na 0 (hst.sc hSc)) (cwV 1 hts gX5_nextBit_X5_begin rfl rfl rfl (by decide +kernel) ⟨Nat.le_of_ble_eq_true rfl, Nat.le_of_ble_eq_true rfl⟩) (zpreV hK hP hD hN (zrecv5 hK hP hSc.1)) rfl rfl hl.1 rfl (lv_room (Nat.le_of_ble_eq_true rfl)) dX5_nextBit_78 ⟨Nat.le_of_ble_eq_true rfl, Nat.le_of_ble_eq_true rfl⟩) hS hD hA (fun S14 H locs hr13 hP hD hS => ?_)
            have hst := hst.trans hr13
            refine lv_aload_n hx hb dX5_nextBit_81 rfl (lv_at hl 0 rfl) ?_
            refine lv_aload_n hx hb dX5_nextBit_82 rfl (lv_at hl 0 rfl) ?_
            refine zget (ci := 5) (C := RX5) (T := TX5) (N := 10) hx hb hts hi5 hown hK hP hSc.1 rfl rfl 5 (by decide) (hts (.fieldLink RX5 28 "LinCluster$Schedule" "bitsSaid" "I") (by decide +kernel)) (fun _ h9 => h9) rfl dX5_nextBit_83 ?_
            refine lv_topi (fun v15 ev15 => ?_)
            refine vp_callSi (va_Run.run (va_runV (As := [.int v15]) (rest := []) ⟨hx, hb, hml, hown, hts⟩ (c_X5_headerBit l dC dI cy G S14 H.size a v15 hSc.1) (cwV 1 hts gX5_nextBit_X5_headerBit rfl rfl rfl (by decide +kernel) ⟨Nat.le_of_ble_eq_true rfl, Nat.le_of_ble_eq_true rfl⟩) (zpreV hK hP hD hN (zrecv5 hK hP hSc.1)) rfl rfl hl.1 rfl (lv_room (Nat.le_of_ble_eq_true rfl)) dX5_nextBit_86 ⟨Nat.le_of_ble_eq_true rfl, Nat.le_of_ble_eq_true rfl⟩)) (fun r16 hr16 => ?_)
            refine lv_istore_n (lv' := [(1, .int r16), (0, .ref a)]) hx hb dX5_nextBit_89 rfl hl (by decide) rfl (fun ls hl => ?_)
            refine lv_aload_n hx hb dX5_nextBit_90 rfl (lv_at hl 1 rfl) ?_
            refine lv_dup hx hb dX5_nextBit_91 rfl ?_
            refine zget (ci := 5) (C := RX5) (T := TX5) (N := 10) hx hb hts hi5 hown hK hP hSc.1 rfl rfl 5 (by decide) (hts (.fieldLink RX5 28 "LinCluster$Schedule" "bitsSaid" "I") (by decide +kernel)) (fun _ h9 => h9) rfl dX5_nextBit_92 ?_
            refine lv_topi (fun v17 ev17 => ?_)
            refine lv_iconst (v := 1) hx hb dX5_nextBit_95 (by decide) ?_
            refine lv_iadd hx hb dX5_nextBit_96 ?_
            refine lv_topi (fun v18 ev18 => ?_)
            refine zputi (ci := 5) (v := v18) (ty := .int) (C := RX5) (T := TX5) (N := 10) hx hb hts hi5 tyX5 tyX5_ok nmX5 hown hK hP hD hS hSc.1 rfl rfl 5 (by decide) (hts (.fieldLink RX5 28 "LinCluster$Schedule" "bitsSaid" "I") (by decide +kernel)) (fun _ h9 => h9) rfl (by decide +kernel) rfl rfl (Nat.le_of_ble_eq_true rfl) rfl dX5_nextBit_97 (fun H locs hP hD hS => ?_)
            have hst := hst.pi (k := 5) (v := v18) hSc.1.2 rfl
            refine lv_iload_n hx hb dX5_nextBit_100 rfl (lv_at hl 0 rfl) ?_
            exact W.iret (v := r16) hx hb hr (fun t ht hW => ⟨⟨r16, (zpi S14 a 5 v18), rfl, hst, by rw [ht]; exact hP, va_K.moved hW.alike hK, hD⟩, hS.F ht⟩) hS.2.2 dX5_nextBit_101
          · skip
            refine lv_aload_n hx hb dX5_nextBit_68 rfl (lv_at hl 0 rfl) ?_
            refine zget (ci := 5) (C := RX5) (T := TX5) (N := 10) hx hb hts hi5 hown hK hP hSc.1 rfl rfl 3 (by decide) (hts (.fieldLink RX5 22 "LinCluster$Schedule" "atHand" "I") (by decide +kernel)) (fun _ h9 => h9) rfl dX5_nextBit_69 ?_
            refine lv_topi (fun v19 ev19 => ?_)
            refine lv_iconst (v := 1) hx hb dX5_nextBit_72 (by decide) ?_
            refine lv_iadd hx hb dX5_nextBit_73 ?_
            refine lv_topi (fun v20 ev20 => ?_)
            refine lv_goto (tgt := 78) hx hb dX5_nextBit_74 (by decide) ?_
            refine zcallv (va_runV (As := [.int v20]) (rest := []) ⟨hx, hb, hml, hown, hts⟩ (c_X5_begin l dC dI cy G S s.heap.size a ia na v20 (hst.sc hSc)) (cwV 1 hts gX5_nextBit_X5_begin rfl rfl rfl (by decide +kernel) ⟨Nat.le_of_ble_eq_true rfl, Nat.le_of_ble_eq_true rfl⟩) (zpreV hK hP hD hN (zrecv5 hK hP hSc.1)) rfl rfl hl.1 rfl (lv_room (Nat.le_of_ble_eq_true rfl)) dX5_nextBit_78 ⟨Nat.le_of_ble_eq_true rfl, Nat.le_of_ble_eq_true rfl⟩) hS hD hA (fun S22 H locs hr21 hP hD hS => ?_)
            have hst := hst.trans hr21
            refine lv_aload_n hx hb dX5_nextBit_81 rfl (lv_at hl 0 rfl) ?_
            refine lv_aload_n hx hb dX5_nextBit_82 rfl (lv_at hl 0 rfl) ?_
            refine zget (ci := 5) (C := RX5) (T := TX5) (N := 10) hx hb hts hi5 hown hK hP hSc.1 rfl rfl 5 (by decide) (hts (.fieldLink RX5 28 "LinCluster$Schedule" "bitsSaid" "I") (by decide +kernel)) (fun _ h9 => h9) rfl dX5_nextBit_83 ?_
            refine lv_topi (fun v23 ev23 => ?_)
            refine vp_callSi (va_Run.run (va_runV (As := [.int v23]) (rest := []) ⟨hx, hb, hml, hown, hts⟩ (c_X5_headerBit l dC dI cy G S22 H.size a v23 hSc.1) (cwV 1 hts gX5_nextBit_X5_headerBit rfl rfl rfl (by decide +kernel) ⟨Nat.le_of_ble_eq_true rfl, Nat.le_of_ble_eq_true rfl⟩) (zpreV hK hP hD hN (zrecv5 hK hP hSc.1)) rfl rfl hl.1 rfl (lv_room (Nat.le_of_ble_eq_true rfl)) dX5_nextBit_86 ⟨Nat.le_of_ble_eq_true rfl, Nat.le_of_ble_eq_true rfl⟩)) (fun r24 hr24 => ?_)
            refine lv_istore_n (lv' := [(1, .int r24), (0, .ref a)]) hx hb dX5_nextBit_89 rfl hl (by decide) rfl (fun ls hl => ?_)
            refine lv_aload_n hx hb dX5_nextBit_90 rfl (lv_at hl 1 rfl) ?_
            refine lv_dup hx hb dX5_nextBit_91 rfl ?_
            refine zget (ci := 5) (C := RX5) (T := TX5) (N := 10) hx hb hts hi5 hown hK hP hSc.1 rfl rfl 5 (by decide) (hts (.fieldLink RX5 28 "LinCluster$Schedule" "bitsSaid" "I") (by decide +kernel)) (fun _ h9 => h9) rfl dX5_nextBit_92 ?_
            refine lv_topi (fun v25 ev25 => ?_)
            refine lv_iconst (v := 1) hx hb dX5_nextBit_95 (by decide) ?_
            refine lv_iadd hx hb dX5_nextBit_96 ?_
            refine lv_topi (fun v26 ev26 => ?_)
            refine zputi (ci := 5) (v := v26) (ty := .int) (C := RX5) (T := TX5) (N := 10) hx hb hts hi5 tyX5 tyX5_ok nmX5 hown hK hP hD hS hSc.1 rfl rfl 5 (by decide) (hts (.fieldLink RX5 28 "LinCluster$Schedule" "bitsSaid" "I") (by decide +kernel)) (fun _ h9 => h9) rfl (by decide +kernel) rfl rfl (Nat.le_of_ble_eq_true rfl) rfl dX5_nextBit_97 (fun H locs hP hD hS => ?_)
            have hst := hst.pi (k := 5) (v := v26) hSc.1.2 rfl
            refine lv_iload_n hx hb dX5_nextBit_100 rfl (lv_at hl 0 rfl) ?_
            exact W.iret (v := r24) hx hb hr (fun t ht hW => ⟨⟨r24, (zpi S22 a 5 v26), rfl, hst, by rw [ht]; exact hP, va_K.moved hW.alike hK, hD⟩, hS.F ht⟩) hS.2.2 dX5_nextBit_101
        · skip
          refine lv_aload_n hx hb dX5_nextBit_43 rfl (lv_at hl 0 rfl) ?_
          refine zget (ci := 5) (C := RX5) (T := TX5) (N := 10) hx hb hts hi5 hown hK hP hSc.1 rfl rfl 5 (by decide) (hts (.fieldLink RX5 28 "LinCluster$Schedule" "bitsSaid" "I") (by decide +kernel)) (fun _ h9 => h9) rfl dX5_nextBit_44 ?_
          refine lv_topi (fun v27 ev27 => ?_)
          refine lv_aload_n hx hb dX5_nextBit_47 rfl (lv_at hl 0 rfl) ?_
          refine zget (ci := 5) (C := RX5) (T := TX5) (N := 10) hx hb hts hi5 hown hK hP hSc.1 rfl rfl 6 (by decide) (hts (.fieldLink RX5 31 "LinCluster$Schedule" "bitsOfSlot" "I") (by decide +kernel)) (fun _ h9 => h9) rfl dX5_nextBit_48 ?_
          refine lv_topi (fun v28 ev28 => ?_)
          refine lv_icmp_lt (tgt := 81) hx hb dX5_nextBit_51 (by decide) (fun c29 => ?_) (fun c29 => ?_)
          · skip
            refine lv_aload_n hx hb dX5_nextBit_81 rfl (lv_at hl 0 rfl) ?_
            refine lv_aload_n hx hb dX5_nextBit_82 rfl (lv_at hl 0 rfl) ?_
            refine zget (ci := 5) (C := RX5) (T := TX5) (N := 10) hx hb hts hi5 hown hK hP hSc.1 rfl rfl 5 (by decide) (hts (.fieldLink RX5 28 "LinCluster$Schedule" "bitsSaid" "I") (by decide +kernel)) (fun _ h9 => h9) rfl dX5_nextBit_83 ?_
            refine lv_topi (fun v30 ev30 => ?_)
            refine vp_callSi (va_Run.run (va_runV (As := [.int v30]) (rest := []) ⟨hx, hb, hml, hown, hts⟩ (c_X5_headerBit l dC dI cy G S s.heap.size a v30 hSc.1) (cwV 1 hts gX5_nextBit_X5_headerBit rfl rfl rfl (by decide +kernel) ⟨Nat.le_of_ble_eq_true rfl, Nat.le_of_ble_eq_true rfl⟩) (zpreV hK hP hD hN (zrecv5 hK hP hSc.1)) rfl rfl hl.1 rfl (lv_room (Nat.le_of_ble_eq_true rfl)) dX5_nextBit_86 ⟨Nat.le_of_ble_eq_true rfl, Nat.le_of_ble_eq_true rfl⟩)) (fun r31 hr31 => ?_)
            refine lv_istore_n (lv' := [(1, .int r31), (0, .ref a)]) hx hb dX5_nextBit_89 rfl hl (by decide) rfl (fun ls hl => ?_)
            refine lv_aload_n hx hb dX5_nextBit_90 rfl (lv_at hl 1 rfl) ?_
            refine lv_dup hx hb dX5_nextBit_91 rfl ?_
            refine zget (ci := 5) (C := RX5) (T := TX5) (N := 10) hx hb hts hi5 hown hK hP hSc.1 rfl rfl 5 (by decide) (hts (.fieldLink RX5 28 "LinCluster$Schedule" "bitsSaid" "I") (by decide +kernel)) (fun _ h9 => h9) rfl dX5_nextBit_92 ?_
            refine lv_topi (fun v32 ev32 => ?_)
            refine lv_iconst (v := 1) hx hb dX5_nextBit_95 (by decide) ?_
            refine lv_iadd hx hb dX5_nextBit_96 ?_
            refine lv_topi (fun v33 ev33 => ?_)
            refine zputi (ci := 5) (v := v33) (ty := .int) (C := RX5) (T := TX5) (N := 10) hx hb hts hi5 tyX5 tyX5_ok nmX5 hown hK hP hD hS hSc.1 rfl rfl 5 (by decide) (hts (.fieldLink RX5 28 "LinCluster$Schedule" "bitsSaid" "I") (by decide +kernel)) (fun _ h9 => h9) rfl (by decide +kernel) rfl rfl (Nat.le_of_ble_eq_true rfl) rfl dX5_nextBit_97 (fun H locs hP hD hS => ?_)
            have hst := hst.pi (k := 5) (v := v33) hSc.1.2 rfl
            refine lv_iload_n hx hb dX5_nextBit_100 rfl (lv_at hl 0 rfl) ?_
            exact W.iret (v := r31) hx hb hr (fun t ht hW => ⟨⟨r31, (zpi S a 5 v33), rfl, hst, by rw [ht]; exact hP, va_K.moved hW.alike hK, hD⟩, hS.F ht⟩) hS.2.2 dX5_nextBit_101
          · skip
            refine lv_aload_n hx hb dX5_nextBit_54 rfl (lv_at hl 0 rfl) ?_
            refine lv_aload_n hx hb dX5_nextBit_55 rfl (lv_at hl 0 rfl) ?_
            refine zget (ci := 5) (C := RX5) (T := TX5) (N := 10) hx hb hts hi5 hown hK hP hSc.1 rfl rfl 3 (by decide) (hts (.fieldLink RX5 22 "LinCluster$Schedule" "atHand" "I") (by decide +kernel)) (fun _ h9 => h9) rfl dX5_nextBit_56 ?_
            refine lv_topi (fun v34 ev34 => ?_)
            refine lv_iconst (v := 1) hx hb dX5_nextBit_59 (by decide) ?_
            refine lv_iadd hx hb dX5_nextBit_60 ?_
            refine lv_topi (fun v35 ev35 => ?_)
            refine lv_aload_n hx hb dX5_nextBit_61 rfl (lv_at hl 0 rfl) ?_
            refine zget (ci := 5) (C := RX5) (T := TX5) (N := 10) hx hb hts hi5 hown hK hP hSc.1 rfl rfl 2 (by decide) (hts (.fieldLink RX5 18 "LinCluster$Schedule" "slots" "I") (by decide +kernel)) (fun _ h9 => h9) rfl dX5_nextBit_62 ?_
            refine lv_topi (fun v36 ev36 => ?_)
            refine lv_icmp_ge (tgt := 77) hx hb dX5_nextBit_65 (by decide) (fun c37 => ?_) (fun c37 => ?_)
            · skip
              refine lv_iconst (v := 0) hx hb dX5_nextBit_77 (by decide) ?_
              refine zcallv (va_runV (As := [.int 0]) (rest := []) ⟨hx, hb, hml, hown, hts⟩ (c_X5_begin l dC dI cy G S s.heap.size a ia na 0 (hst.sc hSc)) (cwV 1 hts gX5_nextBit_X5_begin rfl rfl rfl (by decide +kernel) ⟨Nat.le_of_ble_eq_true rfl, Nat.le_of_ble_eq_true rfl⟩) (zpreV hK hP hD hN (zrecv5 hK hP hSc.1)) rfl rfl hl.1 rfl (lv_room (Nat.le_of_ble_eq_true rfl)) dX5_nextBit_78 ⟨Nat.le_of_ble_eq_true rfl, Nat.le_of_ble_eq_true rfl⟩) hS hD hA (fun S39 H locs hr38 hP hD hS => ?_)
              have hst := hst.trans hr38
              refine lv_aload_n hx hb dX5_nextBit_81 rfl (lv_at hl 0 rfl) ?_
              refine lv_aload_n hx hb dX5_nextBit_82 rfl (lv_at hl 0 rfl) ?_
              refine zget (ci := 5) (C := RX5) (T := TX5) (N := 10) hx hb hts hi5 hown hK hP hSc.1 rfl rfl 5 (by decide) (hts (.fieldLink RX5 28 "LinCluster$Schedule" "bitsSaid" "I") (by decide +kernel)) (fun _ h9 => h9) rfl dX5_nextBit_83 ?_
              refine lv_topi (fun v40 ev40 => ?_)
              refine vp_callSi (va_Run.run (va_runV (As := [.int v40]) (rest := []) ⟨hx, hb, hml, hown, hts⟩ (c_X5_headerBit l dC dI cy G S39 H.size a v40 hSc.1) (cwV 1 hts gX5_nextBit_X5_headerBit rfl rfl rfl (by decide +kernel) ⟨Nat.le_of_ble_eq_true rfl, Nat.le_of_ble_eq_true rfl⟩) (zpreV hK hP hD hN (zrecv5 hK hP hSc.1)) rfl rfl hl.1 rfl (lv_room (Nat.le_of_ble_eq_true rfl)) dX5_nextBit_86 ⟨Nat.le_of_ble_eq_true rfl, Nat.le_of_ble_eq_true rfl⟩)) (fun r41 hr41 => ?_)
              refine lv_istore_n (lv' := [(1, .int r41), (0, .ref a)]) hx hb dX5_nextBit_89 rfl hl (by decide) rfl (fun ls hl => ?_)
              refine lv_aload_n hx hb dX5_nextBit_90 rfl (lv_at hl 1 rfl) ?_
              refine lv_dup hx hb dX5_nextBit_91 rfl ?_
              refine zget (ci := 5) (C := RX5) (T := TX5) (N := 10) hx hb hts hi5 hown hK hP hSc.1 rfl rfl 5 (by decide) (hts (.fieldLink RX5 28 "LinCluster$Schedule" "bitsSaid" "I") (by decide +kernel)) (fun _ h9 => h9) rfl dX5_nextBit_92 ?_
              refine lv_topi (fun v42 ev42 => ?_)
              refine lv_iconst (v := 1) hx hb dX5_nextBit_95 (by decide) ?_
              refine lv_iadd hx hb dX5_nextBit_96 ?_
              refine lv_topi (fun v43 ev43 => ?_)
              refine zputi (ci := 5) (v := v43) (ty := .int) (C := RX5) (T := TX5) (N := 10) hx hb hts hi5 tyX5 tyX5_ok nmX5 hown hK hP hD hS hSc.1 rfl rfl 5 (by decide) (hts (.fieldLink RX5 28 "LinCluster$Schedule" "bitsSaid" "I") (by decide +kernel)) (fun _ h9 => h9) rfl (by decide +kernel) rfl rfl (Nat.le_of_ble_eq_true rfl) rfl dX5_nextBit_97 (fun H locs hP hD hS => ?_)
              have hst := hst.pi (k := 5) (v := v43) hSc.1.2 rfl
              refine lv_iload_n hx hb dX5_nextBit_100 rfl (lv_at hl 0 rfl) ?_
              exact W.iret (v := r41) hx hb hr (fun t ht hW => ⟨⟨r41, (zpi S39 a 5 v43), rfl, hst, by rw [ht]; exact hP, va_K.moved hW.alike hK, hD⟩, hS.F ht⟩) hS.2.2 dX5_nextBit_101
            · skip
              refine lv_aload_n hx hb dX5_nextBit_68 rfl (lv_at hl 0 rfl) ?_
              refine zget (ci := 5) (C := RX5) (T := TX5) (N := 10) hx hb hts hi5 hown hK hP hSc.1 rfl rfl 3 (by decide) (hts (.fieldLink RX5 22 "LinCluster$Schedule" "atHand" "I") (by decide +kernel)) (fun _ h9 => h9) rfl dX5_nextBit_69 ?_
              refine lv_topi (fun v44 ev44 => ?_)
              refine lv_iconst (v := 1) hx hb dX5_nextBit_72 (by decide) ?_
              refine lv_iadd hx hb dX5_nextBit_73 ?_
              refine lv_topi (fun v45 ev45 => ?_)
              refine lv_goto (tgt := 78) hx hb dX5_nextBit_74 (by decide) ?_
              refine zcallv (va_runV (As := [.int v45]) (rest := []) ⟨hx, hb, hml, hown, hts⟩ (c_X5_begin l dC dI cy G S s.heap.size a ia na v45 (hst.sc hSc)) (cwV 1 hts gX5_nextBit_X5_begin rfl rfl rfl (by decide +kernel) ⟨Nat.le_of_ble_eq_true rfl, Nat.le_of_ble_eq_true rfl⟩) (zpreV hK hP hD hN (zrecv5 hK hP hSc.1)) rfl rfl hl.1 rfl (lv_room (Nat.le_of_ble_eq_true rfl)) dX5_nextBit_78 ⟨Nat.le_of_ble_eq_true rfl, Nat.le_of_ble_eq_true rfl⟩) hS hD hA (fun S47 H locs hr46 hP hD hS => ?_)
              have hst := hst.trans hr46
              refine lv_aload_n hx hb dX5_nextBit_81 rfl (lv_at hl 0 rfl) ?_
              refine lv_aload_n hx hb dX5_nextBit_82 rfl (lv_at hl 0 rfl) ?_
              refine zget (ci := 5) (C := RX5) (T := TX5) (N := 10) hx hb hts hi5 hown hK hP hSc.1 rfl rfl 5 (by decide) (hts (.fieldLink RX5 28 "LinCluster$Schedule" "bitsSaid" "I") (by decide +kernel)) (fun _ h9 => h9) rfl dX5_nextBit_83 ?_
              refine lv_topi (fun v48 ev48 => ?_)
              refine vp_callSi (va_Run.run (va_runV (As := [.int v48]) (rest := []) ⟨hx, hb, hml, hown, hts⟩ (c_X5_headerBit l dC dI cy G S47 H.size a v48 hSc.1) (cwV 1 hts gX5_nextBit_X5_headerBit rfl rfl rfl (by decide +kernel) ⟨Nat.le_of_ble_eq_true rfl, Nat.le_of_ble_eq_true rfl⟩) (zpreV hK hP hD hN (zrecv5 hK hP hSc.1)) rfl rfl hl.1 rfl (lv_room (Nat.le_of_ble_eq_true rfl)) dX5_nextBit_86 ⟨Nat.le_of_ble_eq_true rfl, Nat.le_of_ble_eq_true rfl⟩)) (fun r49 hr49 => ?_)
              refine lv_istore_n (lv' := [(1, .int r49), (0, .ref a)]) hx hb dX5_nextBit_89 rfl hl (by decide) rfl (fun ls hl => ?_)
              refine lv_aload_n hx hb dX5_nextBit_90 rfl (lv_at hl 1 rfl) ?_
              refine lv_dup hx hb dX5_nextBit_91 rfl ?_
              refine zget (ci := 5) (C := RX5) (T := TX5) (N := 10) hx hb hts hi5 hown hK hP hSc.1 rfl rfl 5 (by decide) (hts (.fieldLink RX5 28 "LinCluster$Schedule" "bitsSaid" "I") (by decide +kernel)) (fun _ h9 => h9) rfl dX5_nextBit_92 ?_
              refine lv_topi (fun v50 ev50 => ?_)
              refine lv_iconst (v := 1) hx hb dX5_nextBit_95 (by decide) ?_
              refine lv_iadd hx hb dX5_nextBit_96 ?_
              refine lv_topi (fun v51 ev51 => ?_)
              refine zputi (ci := 5) (v := v51) (ty := .int) (C := RX5) (T := TX5) (N := 10) hx hb hts hi5 tyX5 tyX5_ok nmX5 hown hK hP hD hS hSc.1 rfl rfl 5 (by decide) (hts (.fieldLink RX5 28 "LinCluster$Schedule" "bitsSaid" "I") (by decide +kernel)) (fun _ h9 => h9) rfl (by decide +kernel) rfl rfl (Nat.le_of_ble_eq_true rfl) rfl dX5_nextBit_97 (fun H locs hP hD hS => ?_)
              have hst := hst.pi (k := 5) (v := v51) hSc.1.2 rfl
              refine lv_iload_n hx hb dX5_nextBit_100 rfl (lv_at hl 0 rfl) ?_
              exact W.iret (v := r49) hx hb hr (fun t ht hW => ⟨⟨r49, (zpi S47 a 5 v51), rfl, hst, by rw [ht]; exact hP, va_K.moved hW.alike hK, hD⟩, hS.F ht⟩) hS.2.2 dX5_nextBit_101
      · skip
        refine lv_aload_n hx hb dX5_nextBit_23 rfl (lv_at hl 0 rfl) ?_
        refine lv_dup hx hb dX5_nextBit_24 rfl ?_
        refine zget (ci := 5) (C := RX5) (T := TX5) (N := 10) hx hb hts hi5 hown hK hP hSc.1 rfl rfl 8 (by decide) (hts (.fieldLink RX5 37 "LinCluster$Schedule" "pause" "I") (by decide +kernel)) (fun _ h9 => h9) rfl dX5_nextBit_25 ?_
        refine lv_topi (fun v52 ev52 => ?_)
        refine lv_iconst (v := 1) hx hb dX5_nextBit_28 (by decide) ?_
        refine lv_isub hx hb dX5_nextBit_29 ?_
        refine lv_topi (fun v53 ev53 => ?_)
        refine zputi (ci := 5) (v := v53) (ty := .int) (C := RX5) (T := TX5) (N := 10) hx hb hts hi5 tyX5 tyX5_ok nmX5 hown hK hP hD hS hSc.1 rfl rfl 8 (by decide) (hts (.fieldLink RX5 37 "LinCluster$Schedule" "pause" "I") (by decide +kernel)) (fun _ h9 => h9) rfl (by decide +kernel) rfl rfl (Nat.le_of_ble_eq_true rfl) rfl dX5_nextBit_30 (fun H locs hP hD hS => ?_)
        have hst := hst.pi (k := 8) (v := v53) hSc.1.2 rfl
        refine lv_iconst (v := 1) hx hb dX5_nextBit_33 (by decide) ?_
        exact W.iret (v := 1) hx hb hr (fun t ht hW => ⟨⟨1, (zpi S a 8 v53), rfl, hst, by rw [ht]; exact hP, va_K.moved hW.alike hK, hD⟩, hS.F ht⟩) hS.2.2 dX5_nextBit_34
    · skip
      refine lv_iconst (v := 1) hx hb dX5_nextBit_14 (by decide) ?_
      exact W.iret (v := 1) hx hb hr (fun t ht hW => ⟨⟨1, S, rfl, hst, by rw [ht]; exact hP, va_K.moved hW.alike hK, hD⟩, hS.F ht⟩) hS.2.2 dX5_nextBit_15
set_option maxHeartbeats 4000000 in
set_option maxRecDepth 100000 in
theorem c_X5_followMaster (l : Launch) (dC : Nat → ClassId) (dI : Nat → Nat → Nat) (cy : Nat → ClassId) (G : zG) (S : zS) (sz : Nat) (a ia na : Nat) (n : Int32) (hSc : zSc G S a ia na) : Met l yX5_followMaster wsX5_followMaster ({ frames := 0, cells := 0, slots := 0, locals := 0 }) (zP dC dI cy [.ref a, .int n] G S sz) (va_Qv (fun S' => zSt G S S') (zB dC dI cy (zA cy G S sz) G) (zA cy G S sz)) 0 0 (zA cy G S sz) := by
  refine Met.ofW (cc := cX5_followMaster) (maxL := 2) (ret := none) (by decide) rfl ?_
  intro p e s m args below meth c s₁ B hml hv
  obtain ⟨rfl, hsz, hP, hK, hD0, hN⟩ := hv
  have hx := B.exec
  have hb := B.bytes
  have hr := B.returns
  have hts := atoms_spec (ws := wsX5_followMaster) B.pre
  have hown : s.vm.findClass RX5 = some m.cls := findClass_of_methodNamed B.named
  have hlocks := B.notSynchronized
  subst hsz
  have hD : va_D (zA cy G S s.heap.size) (zW cy G S) := hD0.self
  generalize hAe : zA cy G S s.heap.size = A at hD ⊢
  have hA : ∀ q : Nat, s.heap.size ≤ q → A q := fun q h => by rw [← hAe]; exact Or.inr h
  have hS : va_S A s.heap s.heap [] := va_S.rf
  have hst := zSt.refl G S
  have hl := lv_entry ([.ref a, .int n]) (n := 2) (Nat.le_of_ble_eq_true rfl)
  rw [lg_entry_eq]
  generalize (lg_sl ([.ref a, .int n]) ++ List.replicate (2 - (lg_sl ([.ref a, .int n])).length) Slot.unset).toArray = ls at hl ⊢
  have hl : lv_has ls 2 [(0, .ref a), (1, .int n)] := hl
  have hi5 : ∀ w ∈ wsX50, w ∈ wsX5_followMaster := by decide +kernel
  refine lv_aload_n hx hb dX5_followMaster_0 rfl (lv_at hl 0 rfl) ?_
  refine lv_iload_n hx hb dX5_followMaster_1 rfl (lv_at hl 1 rfl) ?_
  refine lv_if_ne (tgt := 9) hx hb dX5_followMaster_2 (by decide) (fun c1 => ?_) (fun c1 => ?_)
  · skip
    refine lv_iconst (v := 0) hx hb dX5_followMaster_9 (by decide) ?_
    refine zputi (ci := 5) (v := 0) (ty := .boolean) (C := RX5) (T := TX5) (N := 10) hx hb hts hi5 tyX5 tyX5_ok nmX5 hown hK hP hD hS hSc.1 rfl rfl 9 (by decide) (hts (.fieldLink RX5 40 "LinCluster$Schedule" "stopped" "Z") (by decide +kernel)) (fun _ h9 => h9) rfl (by decide +kernel) rfl rfl (Nat.le_of_ble_eq_true rfl) rfl dX5_followMaster_10 (fun H locs hP hD hS => ?_)
    have hst := hst.pi (k := 9) (v := 0) hSc.1.2 rfl
    refine lv_aload_n hx hb dX5_followMaster_13 rfl (lv_at hl 0 rfl) ?_
    refine lv_iconst (v := (-1)) hx hb dX5_followMaster_14 (by decide) ?_
    refine zputi (ci := 5) (v := (-1)) (ty := .int) (C := RX5) (T := TX5) (N := 10) hx hb hts hi5 tyX5 tyX5_ok nmX5 hown hK hP hD hS hSc.1 rfl rfl 3 (by decide) (hts (.fieldLink RX5 22 "LinCluster$Schedule" "atHand" "I") (by decide +kernel)) (fun _ h9 => h9) rfl (by decide +kernel) rfl rfl (Nat.le_of_ble_eq_true rfl) rfl dX5_followMaster_15 (fun H locs hP hD hS => ?_)
    have hst := hst.pi (k := 3) (v := (-1)) hSc.1.2 rfl
    refine lv_aload_n hx hb dX5_followMaster_18 rfl (lv_at hl 0 rfl) ?_
    refine lv_bipush (v := 50) hx hb dX5_followMaster_19 (by decide) ?_
    refine zputi (ci := 5) (v := 50) (ty := .int) (C := RX5) (T := TX5) (N := 10) hx hb hts hi5 tyX5 tyX5_ok nmX5 hown hK hP hD hS hSc.1 rfl rfl 8 (by decide) (hts (.fieldLink RX5 37 "LinCluster$Schedule" "pause" "I") (by decide +kernel)) (fun _ h9 => h9) rfl (by decide +kernel) rfl rfl (Nat.le_of_ble_eq_true rfl) rfl dX5_followMaster_21 (fun H locs hP hD hS => ?_)
    have hst := hst.pi (k := 8) (v := 50) hSc.1.2 rfl
    exact W.vret hx hb hr (fun t ht hW => ⟨⟨(zpi (zpi (zpi S a 9 0) a 3 (-1)) a 8 50), rfl, hst, by rw [ht]; exact hP, va_K.moved hW.alike hK, hD⟩, hS.F ht⟩) hS.2.2 dX5_followMaster_24
  · skip
    refine lv_iconst (v := 1) hx hb dX5_followMaster_5 (by decide) ?_
    refine lv_goto (tgt := 10) hx hb dX5_followMaster_6 (by decide) ?_
    refine zputi (ci := 5) (v := 1) (ty := .boolean) (C := RX5) (T := TX5) (N := 10) hx hb hts hi5 tyX5 tyX5_ok nmX5 hown hK hP hD hS hSc.1 rfl rfl 9 (by decide) (hts (.fieldLink RX5 40 "LinCluster$Schedule" "stopped" "Z") (by decide +kernel)) (fun _ h9 => h9) rfl (by decide +kernel) rfl rfl (Nat.le_of_ble_eq_true rfl) rfl dX5_followMaster_10 (fun H locs hP hD hS => ?_)
    have hst := hst.pi (k := 9) (v := 1) hSc.1.2 rfl
    refine lv_aload_n hx hb dX5_followMaster_13 rfl (lv_at hl 0 rfl) ?_
    refine lv_iconst (v := (-1)) hx hb dX5_followMaster_14 (by decide) ?_
    refine zputi (ci := 5) (v := (-1)) (ty := .int) (C := RX5) (T := TX5) (N := 10) hx hb hts hi5 tyX5 tyX5_ok nmX5 hown hK hP hD hS hSc.1 rfl rfl 3 (by decide) (hts (.fieldLink RX5 22 "LinCluster$Schedule" "atHand" "I") (by decide +kernel)) (fun _ h9 => h9) rfl (by decide +kernel) rfl rfl (Nat.le_of_ble_eq_true rfl) rfl dX5_followMaster_15 (fun H locs hP hD hS => ?_)
    have hst := hst.pi (k := 3) (v := (-1)) hSc.1.2 rfl
    refine lv_aload_n hx hb dX5_followMaster_18 rfl (lv_at hl 0 rfl) ?_
    refine lv_bipush (v := 50) hx hb dX5_followMaster_19 (by decide) ?_
    refine zputi (ci := 5) (v := 50) (ty := .int) (C := RX5) (T := TX5) (N := 10) hx hb hts hi5 tyX5 tyX5_ok nmX5 hown hK hP hD hS hSc.1 rfl rfl 8 (by decide) (hts (.fieldLink RX5 37 "LinCluster$Schedule" "pause" "I") (by decide +kernel)) (fun _ h9 => h9) rfl (by decide +kernel) rfl rfl (Nat.le_of_ble_eq_true rfl) rfl dX5_followMaster_21 (fun H locs hP hD hS => ?_)
    have hst := hst.pi (k := 8) (v := 50) hSc.1.2 rfl
    exact W.vret hx hb hr (fun t ht hW => ⟨⟨(zpi (zpi (zpi S a 9 1) a 3 (-1)) a 8 50), rfl, hst, by rw [ht]; exact hP, va_K.moved hW.alike hK, hD⟩, hS.F ht⟩) hS.2.2 dX5_followMaster_24
set_option maxHeartbeats 4000000 in
set_option maxRecDepth 100000 in
theorem c_X0_pass (l : Launch) (dC : Nat → ClassId) (dI : Nat → Nat → Nat) (cy : Nat → ClassId) (G : zG) (S : zS) (sz : Nat) (a ka va : Nat) (n k : Int32) (hDi : zDi G S a ka va) : Met l yX0_pass wsX0_pass ({ frames := 1, cells := 0, slots := 0, locals := 20 }) (zP dC dI cy [.ref a, .int n, .int k] G S sz) (va_Qi (fun (r : Int32) S' => zSt G S S') (zB dC dI cy (zA cy G S sz) G) (zA cy G S sz)) 0 0 (zA cy G S sz) := by
  refine Met.ofW (cc := cX0_pass) (maxL := 6) (ret := (some .int)) (by decide) rfl ?_
  intro p e s m args below meth c s₁ B hml hv
  obtain ⟨rfl, hsz, hP, hK, hD0, hN⟩ := hv
  have hx := B.exec
  have hb := B.bytes
  have hr := B.returns
  have hts := atoms_spec (ws := wsX0_pass) B.pre
  have hown : s.vm.findClass RX0 = some m.cls := findClass_of_methodNamed B.named
  have hlocks := B.notSynchronized
  subst hsz
  have hD : va_D (zA cy G S s.heap.size) (zW cy G S) := hD0.self
  generalize hAe : zA cy G S s.heap.size = A at hD ⊢
  have hA : ∀ q : Nat, s.heap.size ≤ q → A q := fun q h => by rw [← hAe]; exact Or.inr h
  have hS : va_S A s.heap s.heap [] := va_S.rf
  have hst := zSt.refl G S
  have hl := lv_entry ([.ref a, .int n, .int k]) (n := 6) (Nat.le_of_ble_eq_true rfl)
  rw [lg_entry_eq]
  generalize (lg_sl ([.ref a, .int n, .int k]) ++ List.replicate (6 - (lg_sl ([.ref a, .int n, .int k])).length) Slot.unset).toArray = ls at hl ⊢
  have hl : lv_has ls 6 [(0, .ref a), (1, .int n), (2, .int k)] := hl
  have hi0 : ∀ w ∈ wsX00, w ∈ wsX0_pass := by decide +kernel
  refine lv_iload_n hx hb dX0_pass_0 rfl (lv_at hl 1 rfl) ?_
  refine vp_callSi (va_Run.run (va_runS (As := [.int n]) (rest := []) ⟨hx, hb, hml, hown, hts⟩ (c_X0_rowOf l n) (va_cwS 1 hts gX0_pass_X0_rowOf rfl rfl rfl (by decide +kernel) ⟨Nat.le_of_ble_eq_true rfl, Nat.le_of_ble_eq_true rfl⟩) zpreS0 rfl rfl hl.1 rfl (lv_room (Nat.le_of_ble_eq_true rfl)) dX0_pass_1 ⟨Nat.le_of_ble_eq_true rfl, Nat.le_of_ble_eq_true rfl⟩)) (fun r1 hr1 => ?_)
  refine lv_istore_n (lv' := [(3, .int r1), (0, .ref a), (1, .int n), (2, .int k)]) hx hb dX0_pass_4 rfl hl (by decide) rfl (fun ls hl => ?_)
  refine lv_lconst (v := 1) hx hb dX0_pass_5 (by decide) ?_
  refine lv_iload_n hx hb dX0_pass_6 rfl (lv_at hl 2 rfl) ?_
  refine lv_bipush (v := 63) hx hb dX0_pass_7 (by decide) ?_
  refine lv_iand hx hb dX0_pass_9 ?_
  refine lv_topi (fun v2 ev2 => ?_)
  refine lv_lshl hx hb dX0_pass_10 rfl ?_
  refine lv_topl (fun v3 ev3 => ?_)
  refine lv_lstore (lv' := [(4, .long v3), (3, .int r1), (0, .ref a), (1, .int n), (2, .int k)]) hx hb dX0_pass_11 hl (by decide) rfl (fun ls hl => ?_)
  refine lv_aload_n hx hb dX0_pass_13 rfl (lv_at hl 2 rfl) ?_
  refine zget (ci := 0) (C := RX0) (T := TX0) (N := 3) hx hb hts hi0 hown hK hP hDi.1 rfl rfl 0 (by decide) (hts (.fieldLink RX0 9 "LinCluster$Disturbings" "marked" "[J") (by decide +kernel)) (fun _ h9 => h9) (v := .ref ka) (congrArg (fun z => some (va_rf z)) ((hst.di hDi).2.1)) dX0_pass_14 ?_
  refine lv_iload_n hx hb dX0_pass_17 rfl (lv_at hl 1 rfl) ?_
  refine zlald hx hb hK hP hDi.2.2.2.1 hDi.2.2.2.2.1 hr1 dX0_pass_18 ?_
  refine lv_topl (fun v4 ev4 => ?_)
  refine lv_lload hx hb dX0_pass_19 (lv_at hl 0 rfl) ?_
  refine lv_land hx hb dX0_pass_21 ?_
  refine lv_topl (fun v5 ev5 => ?_)
  refine lv_lconst (v := 0) hx hb dX0_pass_22 (by decide) ?_
  refine W.lcmp hx hb dX0_pass_23 ?_
  refine lv_topi (fun v6 ev6 => ?_)
  refine lv_if_ne (tgt := 29) hx hb dX0_pass_24 (by decide) (fun c7 => ?_) (fun c7 => ?_)
  · skip
    refine lv_aload_n hx hb dX0_pass_29 rfl (lv_at hl 2 rfl) ?_
    refine zget (ci := 0) (C := RX0) (T := TX0) (N := 3) hx hb hts hi0 hown hK hP hDi.1 rfl rfl 0 (by decide) (hts (.fieldLink RX0 9 "LinCluster$Disturbings" "marked" "[J") (by decide +kernel)) (fun _ h9 => h9) (v := .ref ka) (congrArg (fun z => some (va_rf z)) ((hst.di hDi).2.1)) dX0_pass_30 ?_
    refine lv_iload_n hx hb dX0_pass_33 rfl (lv_at hl 1 rfl) ?_
    refine lv_dup2_11 hx hb dX0_pass_34 rfl rfl ?_
    refine zlald hx hb hK hP hDi.2.2.2.1 hDi.2.2.2.2.1 hr1 dX0_pass_35 ?_
    refine lv_topl (fun v8 ev8 => ?_)
    refine lv_lload hx hb dX0_pass_36 (lv_at hl 0 rfl) ?_
    refine lv_ldc2 (v := (-1)) hx hb hown (hts (.constantLong RX0 24 (-1)) (by decide +kernel)) dX0_pass_38 ?_
    refine lv_lxor hx hb dX0_pass_41 ?_
    refine lv_topl (fun v9 ev9 => ?_)
    refine lv_land hx hb dX0_pass_42 ?_
    refine lv_topl (fun v10 ev10 => ?_)
    refine zlast (x := v10) hx hb hK hP hD hS hDi.2.2.2.1 hDi.2.2.2.2.1 hr1 dX0_pass_43 (fun H locs hP hD hS => ?_)
    have hst := hst.pj (k := (r1 : Int32).toNatClampNeg) (v := v10) hDi.2.2.2.1.2 rfl
    refine lv_aload_n hx hb dX0_pass_44 rfl (lv_at hl 2 rfl) ?_
    refine lv_dup hx hb dX0_pass_45 rfl ?_
    refine zget (ci := 0) (C := RX0) (T := TX0) (N := 3) hx hb hts hi0 hown hK hP hDi.1 rfl rfl 2 (by decide) (hts (.fieldLink RX0 16 "LinCluster$Disturbings" "toCome" "I") (by decide +kernel)) (fun _ h9 => h9) rfl dX0_pass_46 ?_
    refine lv_topi (fun v11 ev11 => ?_)
    refine lv_iconst (v := 1) hx hb dX0_pass_49 (by decide) ?_
    refine lv_isub hx hb dX0_pass_50 ?_
    refine lv_topi (fun v12 ev12 => ?_)
    refine zputi (ci := 0) (v := v12) (ty := .int) (C := RX0) (T := TX0) (N := 3) hx hb hts hi0 tyX0 tyX0_ok nmX0 hown hK hP hD hS hDi.1 rfl rfl 2 (by decide) (hts (.fieldLink RX0 16 "LinCluster$Disturbings" "toCome" "I") (by decide +kernel)) (fun _ h9 => h9) rfl (by decide +kernel) rfl rfl (Nat.le_of_ble_eq_true rfl) rfl dX0_pass_51 (fun H locs hP hD hS => ?_)
    have hst := hst.pi (k := 2) (v := v12) hDi.1.2 rfl
    refine lv_aload_n hx hb dX0_pass_54 rfl (lv_at hl 2 rfl) ?_
    refine zget (ci := 0) (C := RX0) (T := TX0) (N := 3) hx hb hts hi0 hown hK hP hDi.1 rfl rfl 1 (by decide) (hts (.fieldLink RX0 13 "LinCluster$Disturbings" "values" "[J") (by decide +kernel)) (fun _ h9 => h9) (v := .ref va) (congrArg (fun z => some (va_rf z)) ((hst.di hDi).2.2.1)) dX0_pass_55 ?_
    refine lv_iload_n hx hb dX0_pass_58 rfl (lv_at hl 1 rfl) ?_
    refine zlald hx hb hK hP hDi.2.2.2.2.2.1 hDi.2.2.2.2.2.2 hr1 dX0_pass_59 ?_
    refine lv_topl (fun v13 ev13 => ?_)
    refine lv_lload hx hb dX0_pass_60 (lv_at hl 0 rfl) ?_
    refine lv_land hx hb dX0_pass_62 ?_
    refine lv_topl (fun v14 ev14 => ?_)
    refine lv_lconst (v := 0) hx hb dX0_pass_63 (by decide) ?_
    refine W.lcmp hx hb dX0_pass_64 ?_
    refine lv_topi (fun v15 ev15 => ?_)
    refine lv_if_ne (tgt := 72) hx hb dX0_pass_65 (by decide) (fun c16 => ?_) (fun c16 => ?_)
    · skip
      refine lv_iconst (v := 1) hx hb dX0_pass_72 (by decide) ?_
      exact W.iret (v := 1) hx hb hr (fun t ht hW => ⟨⟨1, (zpi (zpj S ka ((r1 : Int32).toNatClampNeg) v10) a 2 v12), rfl, hst, by rw [ht]; exact hP, va_K.moved hW.alike hK, hD⟩, hS.F ht⟩) hS.2.2 dX0_pass_73
    · skip
      refine lv_iconst (v := 0) hx hb dX0_pass_68 (by decide) ?_
      refine lv_goto (tgt := 73) hx hb dX0_pass_69 (by decide) ?_
      exact W.iret (v := 0) hx hb hr (fun t ht hW => ⟨⟨0, (zpi (zpj S ka ((r1 : Int32).toNatClampNeg) v10) a 2 v12), rfl, hst, by rw [ht]; exact hP, va_K.moved hW.alike hK, hD⟩, hS.F ht⟩) hS.2.2 dX0_pass_73
  · skip
    refine lv_iload_n hx hb dX0_pass_27 rfl (lv_at hl 4 rfl) ?_
    exact W.iret (v := k) hx hb hr (fun t ht hW => ⟨⟨k, S, rfl, hst, by rw [ht]; exact hP, va_K.moved hW.alike hK, hD⟩, hS.F ht⟩) hS.2.2 dX0_pass_28
