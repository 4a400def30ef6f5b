set_option maxHeartbeats 4000000 in
set_option maxRecDepth 100000 in
theorem c_X1_isHeardBy (l : Launch) (dC : Nat → ClassId) (dI : Nat → Nat → Nat) (cy : Nat → ClassId) (G : zG) (S : zS) (sz : Nat) (a : Nat) (n : Int32) (hO : zO G a 1) : Met l yX1_isHeardBy wsX1_isHeardBy ({ frames := 0, cells := 0, slots := 0, locals := 0 }) (zP dC dI cy [.ref a, .int n] G S sz) (vp_Si (fun r => True)) 0 0 (fun _ => False) := by
  refine Met.ofW (cc := cX1_isHeardBy) (maxL := 2) (ret := (some .boolean)) (by decide) rfl ?_
  intro p e s m args below meth c s₁ B hml hv
  obtain ⟨rfl, hsz, hP, hK, hD0, hN⟩ := hv
  have hx := B.exec
  have hb := B.bytes
  have hr := B.returns
  have hts := atoms_spec (ws := wsX1_isHeardBy) B.pre
  have hown : s.vm.findClass RX1 = some m.cls := findClass_of_methodNamed B.named
  have hlocks := B.notSynchronized
  subst hsz
  have hD := hD0
  have hst := zSt.refl G S
  have hl := lv_entry ([.ref a, .int n]) (n := 2) (Nat.le_of_ble_eq_true rfl)
  rw [lg_entry_eq]
  generalize (lg_sl ([.ref a, .int n]) ++ List.replicate (2 - (lg_sl ([.ref a, .int n])).length) Slot.unset).toArray = ls at hl ⊢
  have hl : lv_has ls 2 [(0, .ref a), (1, .int n)] := hl
  have hi1 : ∀ w ∈ wsX10, w ∈ wsX1_isHeardBy := by decide +kernel
  refine lv_aload_n hx hb dX1_isHeardBy_0 rfl (lv_at hl 0 rfl) ?_
  refine zget (ci := 1) (C := RX1) (T := TX1) (N := 9) hx hb hts hi1 hown hK hP hO rfl rfl 6 (by decide) (hts (.fieldLink RX1 15 "LinCluster$Frame" "listeners" "I") (by decide +kernel)) (fun _ h9 => h9) rfl dX1_isHeardBy_1 ?_
  refine lv_topi (fun v1 ev1 => ?_)
  refine lv_iload_n hx hb dX1_isHeardBy_4 rfl (lv_at hl 1 rfl) ?_
  refine lv_ishr hx hb dX1_isHeardBy_5 ?_
  refine lv_topi (fun v2 ev2 => ?_)
  refine lv_iconst (v := 1) hx hb dX1_isHeardBy_6 (by decide) ?_
  refine lv_iand hx hb dX1_isHeardBy_7 ?_
  refine lv_topi (fun v3 ev3 => ?_)
  refine lv_iconst (v := 1) hx hb dX1_isHeardBy_8 (by decide) ?_
  refine lv_icmp_ne (tgt := 16) hx hb dX1_isHeardBy_9 (by decide) (fun c4 => ?_) (fun c4 => ?_)
  · skip
    refine lv_iconst (v := 0) hx hb dX1_isHeardBy_16 (by decide) ?_
    exact W.zret (v := 0) (ty := .boolean) hx hb hr rfl (fun t ht hW => ⟨0, rfl, trivial, ht⟩) (fun _ h => absurd h List.not_mem_nil) dX1_isHeardBy_17
  · skip
    refine lv_iconst (v := 1) hx hb dX1_isHeardBy_12 (by decide) ?_
    refine lv_goto (tgt := 17) hx hb dX1_isHeardBy_13 (by decide) ?_
    exact W.zret (v := 1) (ty := .boolean) hx hb hr rfl (fun t ht hW => ⟨1, rfl, trivial, ht⟩) (fun _ h => absurd h List.not_mem_nil) dX1_isHeardBy_17
set_option maxHeartbeats 4000000 in
set_option maxRecDepth 100000 in
theorem c_X1_keep (l : Launch) (dC : Nat → ClassId) (dI : Nat → Nat → Nat) (cy : Nat → ClassId) (G : zG) (S : zS) (sz : Nat) (a ka ta : Nat) (n : Int32) (b : Int64) (hF : zFr G S a ka ta) : Met l yX1_keep wsX1_keep ({ frames := 1, cells := 0, slots := 0, locals := 21 }) (zP dC dI cy [.ref a, .int n, .long b] G S sz) (va_Qv (fun S' => zSt G S S') (zB dC dI cy (zA cy G S sz) G) (zA cy G S sz)) 0 0 (zA cy G S sz) := by
  refine Met.ofW (cc := cX1_keep) (maxL := 4) (ret := none) (by decide) rfl ?_
  intro p e s m args below meth c s₁ B hml hv
  obtain ⟨rfl, hsz, hP, hK, hD0, hN⟩ := hv
  have hx := B.exec
  have hb := B.bytes
  have hr := B.returns
  have hts := atoms_spec (ws := wsX1_keep) B.pre
  have hown : s.vm.findClass RX1 = some m.cls := findClass_of_methodNamed B.named
  have hlocks := B.notSynchronized
  subst hsz
  have hD : va_D (zA cy G S s.heap.size) (zW cy G S) := hD0.self
  generalize hAe : zA cy G S s.heap.size = A at hD ⊢
  have hA : ∀ q : Nat, s.heap.size ≤ q → A q := fun q h => by rw [← hAe]; exact Or.inr h
  have hS : va_S A s.heap s.heap [] := va_S.rf
  have hst := zSt.refl G S
  have hl := lv_entry ([.ref a, .int n, .long b]) (n := 4) (Nat.le_of_ble_eq_true rfl)
  rw [lg_entry_eq]
  generalize (lg_sl ([.ref a, .int n, .long b]) ++ List.replicate (4 - (lg_sl ([.ref a, .int n, .long b])).length) Slot.unset).toArray = ls at hl ⊢
  have hl : lv_has ls 4 [(0, .ref a), (1, .int n), (2, .long b)] := hl
  have hi1 : ∀ w ∈ wsX10, w ∈ wsX1_keep := by decide +kernel
  refine lv_iload_n hx hb dX1_keep_0 rfl (lv_at hl 1 rfl) ?_
  refine vp_callSi (va_Run.run (va_runSN (As := [.int n]) (rest := []) ⟨hx, hb, hml, hown, hts⟩ (c_X6_isNode l n) ⟨va_cnB 1 hts gX1_keep_X6_isNode_n57 rfl rfl rfl (zN_X1_57 hN) (hts (.initialized RX6) (by decide +kernel)) (by decide +kernel) ⟨Nat.le_of_ble_eq_true rfl, Nat.le_of_ble_eq_true rfl⟩, hts (.static yX6_isNode) (by decide +kernel), trivial⟩ zpreS0 rfl rfl hl.1 rfl (lv_room (Nat.le_of_ble_eq_true rfl)) dX1_keep_1 ⟨Nat.le_of_ble_eq_true rfl, Nat.le_of_ble_eq_true rfl⟩)) (fun r1 hr1 => ?_)
  refine lv_if_eq (tgt := 32) hx hb dX1_keep_4 (by decide) (fun c2 => ?_) (fun c2 => ?_)
  · skip
    exact W.vret hx hb hr (fun t ht hW => ⟨⟨S, rfl, hst, by rw [ht]; exact hP, va_K.moved hW.alike hK, hD⟩, hS.F ht⟩) hS.2.2 dX1_keep_32
  · skip
    refine lv_aload_n hx hb dX1_keep_7 rfl (lv_at hl 0 rfl) ?_
    refine lv_iload_n hx hb dX1_keep_8 rfl (lv_at hl 1 rfl) ?_
    refine vp_callSi (va_Run.run (va_runV (As := [.int n]) (rest := []) ⟨hx, hb, hml, hown, hts⟩ (c_X1_isHeardBy l dC dI cy G S s.heap.size a n hF.1) (cwV 1 hts gX1_keep_X1_isHeardBy rfl rfl rfl (by decide +kernel) ⟨Nat.le_of_ble_eq_true rfl, Nat.le_of_ble_eq_true rfl⟩) (zpreV hK hP hD hN (zrecv1 hK hP hF.1)) rfl rfl hl.1 rfl (lv_room (Nat.le_of_ble_eq_true rfl)) dX1_keep_9 ⟨Nat.le_of_ble_eq_true rfl, Nat.le_of_ble_eq_true rfl⟩)) (fun r3 hr3 => ?_)
    refine lv_if_eq (tgt := 32) hx hb dX1_keep_12 (by decide) (fun c4 => ?_) (fun c4 => ?_)
    · skip
      exact W.vret hx hb hr (fun t ht hW => ⟨⟨S, rfl, hst, by rw [ht]; exact hP, va_K.moved hW.alike hK, hD⟩, hS.F ht⟩) hS.2.2 dX1_keep_32
    · skip
      refine lv_aload_n hx hb dX1_keep_15 rfl (lv_at hl 0 rfl) ?_
      refine zget (ci := 1) (C := RX1) (T := TX1) (N := 9) hx hb hts hi1 hown hK hP hF.1 rfl rfl 7 (by decide) (hts (.fieldLink RX1 19 "LinCluster$Frame" "kept" "[J") (by decide +kernel)) (fun _ h9 => h9) (v := .ref ka) (congrArg (fun z => some (va_rf z)) ((hst.fr hF).2.1)) dX1_keep_16 ?_
      refine lv_iload_n hx hb dX1_keep_19 rfl (lv_at hl 1 rfl) ?_
      refine lv_lload_n hx hb dX1_keep_20 rfl (lv_at hl 2 rfl) ?_
      refine zlast (x := b) hx hb hK hP hD hS hF.2.2.2.2.1 hF.2.2.2.2.2.1 (zin8 hr1 c2) dX1_keep_21 (fun H locs hP hD hS => ?_)
      have hst := hst.pj (k := (n : Int32).toNatClampNeg) (v := b) hF.2.2.2.2.1.2 rfl
      refine lv_aload_n hx hb dX1_keep_22 rfl (lv_at hl 0 rfl) ?_
      refine zget (ci := 1) (C := RX1) (T := TX1) (N := 9) hx hb hts hi1 hown hK hP hF.1 rfl rfl 8 (by decide) (hts (.fieldLink RX1 23 "LinCluster$Frame" "takings" "[I") (by decide +kernel)) (fun _ h9 => h9) (v := .ref ta) (congrArg (fun z => some (va_rf z)) ((hst.fr hF).2.2.1)) dX1_keep_23 ?_
      refine lv_iload_n hx hb dX1_keep_26 rfl (lv_at hl 1 rfl) ?_
      refine lv_dup2_11 hx hb dX1_keep_27 rfl rfl ?_
      refine ziald hx hb hK hP hF.2.2.2.2.2.2.1 hF.2.2.2.2.2.2.2 (zin8 hr1 c2) dX1_keep_28 ?_
      refine lv_topi (fun v5 ev5 => ?_)
      refine lv_iconst (v := 1) hx hb dX1_keep_29 (by decide) ?_
      refine lv_iadd hx hb dX1_keep_30 ?_
      refine lv_topi (fun v6 ev6 => ?_)
      refine ziast (x := v6) hx hb hK hP hD hS hF.2.2.2.2.2.2.1 hF.2.2.2.2.2.2.2 (zin8 hr1 c2) dX1_keep_31 (fun H locs hP hD hS => ?_)
      have hst := hst.pi (k := (n : Int32).toNatClampNeg) (v := v6) hF.2.2.2.2.2.2.1.2 rfl
      exact W.vret hx hb hr (fun t ht hW => ⟨⟨(zpi (zpj S ka ((n : Int32).toNatClampNeg) b) ta ((n : Int32).toNatClampNeg) v6), rfl, hst, by rw [ht]; exact hP, va_K.moved hW.alike hK, hD⟩, hS.F ht⟩) hS.2.2 dX1_keep_32
set_option maxHeartbeats 4000000 in
set_option maxRecDepth 100000 in
theorem c_X1_checksumOf (l : Launch) (dC : Nat → ClassId) (dI : Nat → Nat → Nat) (cy : Nat → ClassId) (G : zG) (S : zS) (sz : Nat) (a ka ta : Nat) (b : Int64) (hF : zFr G S a ka ta) : Met l yX1_checksumOf wsX1_checksumOf ({ frames := 0, cells := 0, slots := 0, locals := 0 }) (zP dC dI cy [.ref a, .long b] G S sz) (vp_Si (fun r => True)) 0 0 (fun _ => False) := by
  refine Met.ofW (cc := cX1_checksumOf) (maxL := 7) (ret := (some .int)) (by decide) rfl ?_
  intro p e s m args below meth c s₁ B hml hv
  obtain ⟨rfl, hsz, hP, hK, hD0, hN⟩ := hv
  have hx := B.exec
  have hb := B.bytes
  have hr := B.returns
  have hts := atoms_spec (ws := wsX1_checksumOf) B.pre
  have hown : s.vm.findClass RX1 = some m.cls := findClass_of_methodNamed B.named
  have hlocks := B.notSynchronized
  subst hsz
  have hD := hD0
  have hst := zSt.refl G S
  have hl := lv_entry ([.ref a, .long b]) (n := 7) (Nat.le_of_ble_eq_true rfl)
  rw [lg_entry_eq]
  generalize (lg_sl ([.ref a, .long b]) ++ List.replicate (7 - (lg_sl ([.ref a, .long b])).length) Slot.unset).toArray = ls at hl ⊢
  have hl : lv_has ls 7 [(0, .ref a), (1, .long b)] := hl
  have hi1 : ∀ w ∈ wsX10, w ∈ wsX1_checksumOf := by decide +kernel
  refine lv_aload_n hx hb dX1_checksumOf_0 rfl (lv_at hl 0 rfl) ?_
  refine zget (ci := 1) (C := RX1) (T := TX1) (N := 9) hx hb hts hi1 hown hK hP hF.1 rfl rfl 4 (by decide) (hts (.fieldLink RX1 36 "LinCluster$Frame" "enhanced" "Z") (by decide +kernel)) (fun _ h9 => h9) rfl dX1_checksumOf_1 ?_
  refine lv_topi (fun v1 ev1 => ?_)
  refine lv_if_eq (tgt := 14) hx hb dX1_checksumOf_4 (by decide) (fun c2 => ?_) (fun c2 => ?_)
  · skip
    refine lv_iconst (v := 0) hx hb dX1_checksumOf_14 (by decide) ?_
    refine lv_istore_n (lv' := [(3, .int 0), (0, .ref a), (1, .long b)]) hx hb dX1_checksumOf_15 rfl hl (by decide) rfl (fun ls hl => ?_)
    refine lv_lload_n hx hb dX1_checksumOf_16 rfl (lv_at hl 2 rfl) ?_
    refine lv_lstore (lv' := [(4, .long b), (3, .int 0), (0, .ref a), (1, .long b)]) hx hb dX1_checksumOf_17 hl (by decide) rfl (fun ls hl => ?_)
    refine lv_iconst (v := 0) hx hb dX1_checksumOf_19 (by decide) ?_
    refine lv_istore (lv' := [(6, .int 0), (4, .long b), (3, .int 0), (0, .ref a), (1, .long b)]) hx hb dX1_checksumOf_20 hl (by decide) rfl (fun ls hl => ?_)
    obtain ⟨n9, hn9, en9⟩ := hF.2.2.2.1
    refine zloopR n9 (fun k9 (x9 : Int32 × Int64) => [(0, .ref a), (1, .long b), (3, .int x9.1), (4, .long x9.2), (6, .int (nI k9))]) ?_ ?_ n9 0 (0, b) ls (Nat.zero_add _) (lv_sub hl [3, 4, 2, 1, 0] rfl)
    · intro x9 ls hl
      obtain ⟨x3, x4⟩ := x9
      have hl : lv_has ls 7 [(0, .ref a), (1, .long b), (3, .int x3), (4, .long x4), (6, .int (nI n9))] := hl
      refine lv_iload hx hb dX1_checksumOf_22 (lv_at hl 4 rfl) ?_
      refine lv_aload_n hx hb dX1_checksumOf_24 rfl (lv_at hl 0 rfl) ?_
      refine zget (ci := 1) (C := RX1) (T := TX1) (N := 9) hx hb hts hi1 hown hK hP hF.1 rfl rfl 1 (by decide) (hts (.fieldLink RX1 30 "LinCluster$Frame" "length" "I") (by decide +kernel)) (fun _ h9 => h9) rfl dX1_checksumOf_25 ?_
      refine lv_topi (fun v3 ev3 => ?_)
      refine lv_icmp_ge (tgt := 67) hx hb dX1_checksumOf_28 (by decide) (fun c4 => ?_) (fun c4 => ?_)
      · skip
        refine lv_sipush (v := 255) hx hb dX1_checksumOf_67 (by decide) ?_
        refine lv_iload_n hx hb dX1_checksumOf_70 rfl (lv_at hl 2 rfl) ?_
        refine lv_isub hx hb dX1_checksumOf_71 ?_
        refine lv_topi (fun v5 ev5 => ?_)
        exact W.iret (v := v5) hx hb hr (fun t ht hW => ⟨v5, rfl, trivial, ht⟩) (fun _ h => absurd h List.not_mem_nil) dX1_checksumOf_72
      · exact absurd (by rw [ev3, en9]; exact nI_le (Nat.le_refl _) (by omega)) c4
    · intro n8 k9 x9 ls hk9 ih hl
      obtain ⟨x3, x4⟩ := x9
      have hl : lv_has ls 7 [(0, .ref a), (1, .long b), (3, .int x3), (4, .long x4), (6, .int (nI k9))] := hl
      refine lv_iload hx hb dX1_checksumOf_22 (lv_at hl 4 rfl) ?_
      refine lv_aload_n hx hb dX1_checksumOf_24 rfl (lv_at hl 0 rfl) ?_
      refine zget (ci := 1) (C := RX1) (T := TX1) (N := 9) hx hb hts hi1 hown hK hP hF.1 rfl rfl 1 (by decide) (hts (.fieldLink RX1 30 "LinCluster$Frame" "length" "I") (by decide +kernel)) (fun _ h9 => h9) rfl dX1_checksumOf_25 ?_
      refine lv_topi (fun v6 ev6 => ?_)
      refine lv_icmp_ge (tgt := 67) hx hb dX1_checksumOf_28 (by decide) (fun c7 => ?_) (fun c7 => ?_)
      · exact absurd c7 (by rw [ev6, en9]; exact nI_ge (by omega) (by omega))
      · skip
        refine lv_iload_n hx hb dX1_checksumOf_31 rfl (lv_at hl 2 rfl) ?_
        refine lv_lload hx hb dX1_checksumOf_32 (lv_at hl 3 rfl) ?_
        refine lv_ldc2 (v := 255) hx hb hown (hts (.constantLong RX1 51 255) (by decide +kernel)) dX1_checksumOf_34 ?_
        refine lv_land hx hb dX1_checksumOf_37 ?_
        refine lv_topl (fun v8 ev8 => ?_)
        refine lv_l2i hx hb dX1_checksumOf_38 rfl ?_
        refine lv_topi (fun v9 ev9 => ?_)
        refine lv_iadd hx hb dX1_checksumOf_39 ?_
        refine lv_topi (fun v10 ev10 => ?_)
        refine lv_istore_n (lv' := [(3, .int v10), (0, .ref a), (1, .long b), (4, .long x4), (6, .int (nI k9))]) hx hb dX1_checksumOf_40 rfl hl (by decide) rfl (fun ls hl => ?_)
        refine lv_iload_n hx hb dX1_checksumOf_41 rfl (lv_at hl 0 rfl) ?_
        refine lv_sipush (v := 255) hx hb dX1_checksumOf_42 (by decide) ?_
        refine lv_icmp_le (tgt := 54) hx hb dX1_checksumOf_45 (by decide) (fun c11 => ?_) (fun c11 => ?_)
        · skip
          refine lv_lload hx hb dX1_checksumOf_54 (lv_at hl 3 rfl) ?_
          refine lv_bipush (v := 8) hx hb dX1_checksumOf_56 (by decide) ?_
          refine lv_lushr hx hb dX1_checksumOf_58 rfl ?_
          refine lv_topl (fun v12 ev12 => ?_)
          refine lv_lstore (lv' := [(4, .long v12), (3, .int v10), (0, .ref a), (1, .long b), (6, .int (nI k9))]) hx hb dX1_checksumOf_59 hl (by decide) rfl (fun ls hl => ?_)
          obtain ⟨v13, ev13⟩ : ∃ y : Int32, y = (nI k9) + 1 := ⟨_, rfl⟩
          refine lv_iinc (v := v13) (lv' := [(6, .int v13), (4, .long v12), (3, .int v10), (0, .ref a), (1, .long b)]) hx hb dX1_checksumOf_61 hl (k := 4) rfl (by rw [ev13]; rfl) (by decide) rfl (fun ls hl => ?_)
          refine lv_goto (tgt := 22) hx hb dX1_checksumOf_64 (by decide) ?_
          have e9 : v13 = nI (k9 + 1) := by rw [ev13]; exact nI_1 k9
          rw [e9] at hl
          exact ih (v10, v12) ls (lv_sub hl [3, 4, 2, 1, 0] rfl)
        · skip
          obtain ⟨v14, ev14⟩ : ∃ y : Int32, y = v10 + (-255) := ⟨_, rfl⟩
          refine lv_iincW (v := v14) (lv' := [(3, .int v14), (0, .ref a), (1, .long b), (4, .long x4), (6, .int (nI k9))]) hx hb dX1_checksumOf_48 hl (k := 0) rfl (by rw [ev14]; rfl) (by decide) rfl (fun ls hl => ?_)
          refine lv_lload hx hb dX1_checksumOf_54 (lv_at hl 3 rfl) ?_
          refine lv_bipush (v := 8) hx hb dX1_checksumOf_56 (by decide) ?_
          refine lv_lushr hx hb dX1_checksumOf_58 rfl ?_
          refine lv_topl (fun v15 ev15 => ?_)
          refine lv_lstore (lv' := [(4, .long v15), (3, .int v14), (0, .ref a), (1, .long b), (6, .int (nI k9))]) hx hb dX1_checksumOf_59 hl (by decide) rfl (fun ls hl => ?_)
          obtain ⟨v16, ev16⟩ : ∃ y : Int32, y = (nI k9) + 1 := ⟨_, rfl⟩
          refine lv_iinc (v := v16) (lv' := [(6, .int v16), (4, .long v15), (3, .int v14), (0, .ref a), (1, .long b)]) hx hb dX1_checksumOf_61 hl (k := 4) rfl (by rw [ev16]; rfl) (by decide) rfl (fun ls hl => ?_)
          refine lv_goto (tgt := 22) hx hb dX1_checksumOf_64 (by decide) ?_
          have e9 : v16 = nI (k9 + 1) := by rw [ev16]; exact nI_1 k9
          rw [e9] at hl
          exact ih (v14, v15) ls (lv_sub hl [3, 4, 2, 1, 0] rfl)
  · skip
    refine lv_aload_n hx hb dX1_checksumOf_7 rfl (lv_at hl 0 rfl) ?_
    refine zget (ci := 1) (C := RX1) (T := TX1) (N := 9) hx hb hts hi1 hown hK hP hF.1 rfl rfl 3 (by decide) (hts (.fieldLink RX1 44 "LinCluster$Frame" "pid" "I") (by decide +kernel)) (fun _ h9 => h9) rfl dX1_checksumOf_8 ?_
    refine lv_topi (fun v17 ev17 => ?_)
    refine lv_goto (tgt := 15) hx hb dX1_checksumOf_11 (by decide) ?_
    refine lv_istore_n (lv' := [(3, .int v17), (0, .ref a), (1, .long b)]) hx hb dX1_checksumOf_15 rfl hl (by decide) rfl (fun ls hl => ?_)
    refine lv_lload_n hx hb dX1_checksumOf_16 rfl (lv_at hl 2 rfl) ?_
    refine lv_lstore (lv' := [(4, .long b), (3, .int v17), (0, .ref a), (1, .long b)]) hx hb dX1_checksumOf_17 hl (by decide) rfl (fun ls hl => ?_)
    refine lv_iconst (v := 0) hx hb dX1_checksumOf_19 (by decide) ?_
    refine lv_istore (lv' := [(6, .int 0), (4, .long b), (3, .int v17), (0, .ref a), (1, .long b)]) hx hb dX1_checksumOf_20 hl (by decide) rfl (fun ls hl => ?_)
    obtain ⟨n9, hn9, en9⟩ := hF.2.2.2.1
    refine zloopR n9 (fun k9 (x9 : Int32 × Int64) => [(0, .ref a), (1, .long b), (3, .int x9.1), (4, .long x9.2), (6, .int (nI k9))]) ?_ ?_ n9 0 (v17, b) ls (Nat.zero_add _) (lv_sub hl [3, 4, 2, 1, 0] rfl)
    · intro x9 ls hl
      obtain ⟨x3, x4⟩ := x9
      have hl : lv_has ls 7 [(0, .ref a), (1, .long b), (3, .int x3), (4, .long x4), (6, .int (nI n9))] := hl
      refine lv_iload hx hb dX1_checksumOf_22 (lv_at hl 4 rfl) ?_
      refine lv_aload_n hx hb dX1_checksumOf_24 rfl (lv_at hl 0 rfl) ?_
      refine zget (ci := 1) (C := RX1) (T := TX1) (N := 9) hx hb hts hi1 hown hK hP hF.1 rfl rfl 1 (by decide) (hts (.fieldLink RX1 30 "LinCluster$Frame" "length" "I") (by decide +kernel)) (fun _ h9 => h9) rfl dX1_checksumOf_25 ?_
      refine lv_topi (fun v18 ev18 => ?_)
      refine lv_icmp_ge (tgt := 67) hx hb dX1_checksumOf_28 (by decide) (fun c19 => ?_) (fun c19 => ?_)
      · skip
        refine lv_sipush (v := 255) hx hb dX1_checksumOf_67 (by decide) ?_
        refine lv_iload_n hx hb dX1_checksumOf_70 rfl (lv_at hl 2 rfl) ?_
        refine lv_isub hx hb dX1_checksumOf_71 ?_
        refine lv_topi (fun v20 ev20 => ?_)
        exact W.iret (v := v20) hx hb hr (fun t ht hW => ⟨v20, rfl, trivial, ht⟩) (fun _ h => absurd h List.not_mem_nil) dX1_checksumOf_72
      · exact absurd (by rw [ev18, en9]; exact nI_le (Nat.le_refl _) (by omega)) c19
    · intro n8 k9 x9 ls hk9 ih hl
      obtain ⟨x3, x4⟩ := x9
      have hl : lv_has ls 7 [(0, .ref a), (1, .long b), (3, .int x3), (4, .long x4), (6, .int (nI k9))] := hl
      refine lv_iload hx hb dX1_checksumOf_22 (lv_at hl 4 rfl) ?_
      refine lv_aload_n hx hb dX1_checksumOf_24 rfl (lv_at hl 0 rfl) ?_
      refine zget (ci := 1) (C := RX1) (T := TX1) (N := 9) hx hb hts hi1 hown hK hP hF.1 rfl rfl 1 (by decide) (hts (.fieldLink RX1 30 "LinCluster$Frame" "length" "I") (by decide +kernel)) (fun _ h9 => h9) rfl dX1_checksumOf_25 ?_
      refine lv_topi (fun v21 ev21 => ?_)
      refine lv_icmp_ge (tgt := 67) hx hb dX1_checksumOf_28 (by decide) (fun c22 => ?_) (fun c22 => ?_)
      · exact absurd c22 (by rw [ev21, en9]; exact nI_ge (by omega) (by omega))
      · skip
        refine lv_iload_n hx hb dX1_checksumOf_31 rfl (lv_at hl 2 rfl) ?_
        refine lv_lload hx hb dX1_checksumOf_32 (lv_at hl 3 rfl) ?_
        refine lv_ldc2 (v := 255) hx hb hown (hts (.constantLong RX1 51 255) (by decide +kernel)) dX1_checksumOf_34 ?_
        refine lv_land hx hb dX1_checksumOf_37 ?_
        refine lv_topl (fun v23 ev23 => ?_)
        refine lv_l2i hx hb dX1_checksumOf_38 rfl ?_
        refine lv_topi (fun v24 ev24 => ?_)
        refine lv_iadd hx hb dX1_checksumOf_39 ?_
        refine lv_topi (fun v25 ev25 => ?_)
        refine lv_istore_n (lv' := [(3, .int v25), (0, .ref a), (1, .long b), (4, .long x4), (6, .int (nI k9))]) hx hb dX1_checksumOf_40 rfl hl (by decide) rfl (fun ls hl => ?_)
        refine lv_iload_n hx hb dX1_checksumOf_41 rfl (lv_at hl 0 rfl) ?_
        refine lv_sipush (v := 255) hx hb dX1_checksumOf_42 (by decide) ?_
        refine lv_icmp_le (tgt := 54) hx hb dX1_checksumOf_45 (by decide) (fun c26 => ?_) (fun c26 => ?_)
        · skip
          refine lv_lload hx hb dX1_checksumOf_54 (lv_at hl 3 rfl) ?_
          refine lv_bipush (v := 8) hx hb dX1_checksumOf_56 (by decide) ?_
          refine lv_lushr hx hb dX1_checksumOf_58 rfl ?_
          refine lv_topl (fun v27 ev27 => ?_)
          refine lv_lstore (lv' := [(4, .long v27), (3, .int v25), (0, .ref a), (1, .long b), (6, .int (nI k9))]) hx hb dX1_checksumOf_59 hl (by decide) rfl (fun ls hl => ?_)
          obtain ⟨v28, ev28⟩ : ∃ y : Int32, y = (nI k9) + 1 := ⟨_, rfl⟩
          refine lv_iinc (v := v28) (lv' := [(6, .int v28), (4, .long v27), (3, .int v25), (0, .ref a), (1, .long b)]) hx hb dX1_checksumOf_61 hl (k := 4) rfl (by rw [ev28]; rfl) (by decide) rfl (fun ls hl => ?_)
          refine lv_goto (tgt := 22) hx hb dX1_checksumOf_64 (by decide) ?_
          have e9 : v28 = nI (k9 + 1) := by rw [ev28]; exact nI_1 k9
          rw [e9] at hl
          exact ih (v25, v27) ls (lv_sub hl [3, 4, 2, 1, 0] rfl)
        · skip
          obtain ⟨v29, ev29⟩ : ∃ y : Int32, y = v25 + (-255) := ⟨_, rfl⟩
          refine lv_iincW (v := v29) (lv' := [(3, .int v29), (0, .ref a), (1, .long b), (4, .long x4), (6, .int (nI k9))]) hx hb dX1_checksumOf_48 hl (k := 0) rfl (by rw [ev29]; rfl) (by decide) rfl (fun ls hl => ?_)
          refine lv_lload hx hb dX1_checksumOf_54 (lv_at hl 3 rfl) ?_
          refine lv_bipush (v := 8) hx hb dX1_checksumOf_56 (by decide) ?_
          refine lv_lushr hx hb dX1_checksumOf_58 rfl ?_
          refine lv_topl (fun v30 ev30 => ?_)
          refine lv_lstore (lv' := [(4, .long v30), (3, .int v29), (0, .ref a), (1, .long b), (6, .int (nI k9))]) hx hb dX1_checksumOf_59 hl (by decide) rfl (fun ls hl => ?_)
          obtain ⟨v31, ev31⟩ : ∃ y : Int32, y = (nI k9) + 1 := ⟨_, rfl⟩
          refine lv_iinc (v := v31) (lv' := [(6, .int v31), (4, .long v30), (3, .int v29), (0, .ref a), (1, .long b)]) hx hb dX1_checksumOf_61 hl (k := 4) rfl (by rw [ev31]; rfl) (by decide) rfl (fun ls hl => ?_)
          refine lv_goto (tgt := 22) hx hb dX1_checksumOf_64 (by decide) ?_
          have e9 : v31 = nI (k9 + 1) := by rw [ev31]; exact nI_1 k9
          rw [e9] at hl
          exact ih (v29, v30) ls (lv_sub hl [3, 4, 2, 1, 0] rfl)
