set_option maxHeartbeats 4000000 in
set_option maxRecDepth 100000 in
theorem c_X7_isIn (l : Launch) (v a b : Int32)  : Met l yX7_isIn wsX7_isIn ({ frames := 0, cells := 0, slots := 0, locals := 0 }) (va_Pc [.int v, .int a, .int b] (fun _ => True)) (vp_Si (fun r => (r = 1 ∧ ¬ v < a ∧ ¬ b < v) ∨ (r = 0 ∧ (v < a ∨ b < v)))) 0 0 (fun _ => False) := by
  refine Met.ofW (cc := cX7_isIn) (maxL := 3) (ret := (some .boolean)) (by decide) rfl ?_
  intro p e s m args below meth c s₁ B hml hv
  obtain ⟨rfl, -⟩ := hv
  have hx := B.exec
  have hb := B.bytes
  have hr := B.returns
  have hts := atoms_spec (ws := wsX7_isIn) B.pre
  have hown : s.vm.findClass RX7 = some m.cls := findClass_of_methodNamed B.named
  have hlocks := B.notSynchronized
  have hl := lv_entry ([.int v, .int a, .int b]) (n := 3) (Nat.le_of_ble_eq_true rfl)
  rw [lg_entry_eq]
  generalize (lg_sl ([.int v, .int a, .int b]) ++ List.replicate (3 - (lg_sl ([.int v, .int a, .int b])).length) Slot.unset).toArray = ls at hl ⊢
  have hl : lv_has ls 3 [(0, .int v), (1, .int a), (2, .int b)] := hl
  refine lv_iload_n hx hb dX7_isIn_0 rfl (lv_at hl 0 rfl) ?_
  refine lv_iload_n hx hb dX7_isIn_1 rfl (lv_at hl 1 rfl) ?_
  refine lv_icmp_lt (tgt := 14) hx hb dX7_isIn_2 (by decide) (fun c1 => ?_) (fun c1 => ?_)
  · skip
    refine lv_iconst (v := 0) hx hb dX7_isIn_14 (by decide) ?_
    exact W.zret (v := 0) (ty := .boolean) hx hb hr rfl (fun t ht hW => ⟨0, rfl, (Or.inr ⟨rfl, Or.inl c1⟩), ht⟩) (fun _ h => absurd h List.not_mem_nil) dX7_isIn_15
  · skip
    refine lv_iload_n hx hb dX7_isIn_5 rfl (lv_at hl 0 rfl) ?_
    refine lv_iload_n hx hb dX7_isIn_6 rfl (lv_at hl 2 rfl) ?_
    refine lv_icmp_gt (tgt := 14) hx hb dX7_isIn_7 (by decide) (fun c2 => ?_) (fun c2 => ?_)
    · skip
      refine lv_iconst (v := 0) hx hb dX7_isIn_14 (by decide) ?_
      exact W.zret (v := 0) (ty := .boolean) hx hb hr rfl (fun t ht hW => ⟨0, rfl, (Or.inr ⟨rfl, Or.inr c2⟩), ht⟩) (fun _ h => absurd h List.not_mem_nil) dX7_isIn_15
    · skip
      refine lv_iconst (v := 1) hx hb dX7_isIn_10 (by decide) ?_
      refine lv_goto (tgt := 15) hx hb dX7_isIn_11 (by decide) ?_
      exact W.zret (v := 1) (ty := .boolean) hx hb hr rfl (fun t ht hW => ⟨1, rfl, (Or.inl ⟨rfl, c1, c2⟩), ht⟩) (fun _ h => absurd h List.not_mem_nil) dX7_isIn_15
set_option maxHeartbeats 4000000 in
set_option maxRecDepth 100000 in
theorem c_X7_isNode (l : Launch) (v : Int32)  : Met l yX7_isNode wsX7_isNode ({ frames := 1, cells := 0, slots := 0, locals := 22 }) (va_Pc [.int v] (fun _ => True)) (vp_Si (fun r => (r = 1 ∧ ¬ v < 0 ∧ ¬ 7 < v) ∨ (r = 0 ∧ (v < 0 ∨ 7 < v)))) 0 0 (fun _ => False) := by
  refine Met.ofW (cc := cX7_isNode) (maxL := 1) (ret := (some .boolean)) (by decide) rfl ?_
  intro p e s m args below meth c s₁ B hml hv
  obtain ⟨rfl, -⟩ := hv
  have hx := B.exec
  have hb := B.bytes
  have hr := B.returns
  have hts := atoms_spec (ws := wsX7_isNode) B.pre
  have hown : s.vm.findClass RX7 = some m.cls := findClass_of_methodNamed B.named
  have hlocks := B.notSynchronized
  have hl := lv_entry ([.int v]) (n := 1) (Nat.le_of_ble_eq_true rfl)
  rw [lg_entry_eq]
  generalize (lg_sl ([.int v]) ++ List.replicate (1 - (lg_sl ([.int v])).length) Slot.unset).toArray = ls at hl ⊢
  have hl : lv_has ls 1 [(0, .int v)] := hl
  refine lv_iload_n hx hb dX7_isNode_0 rfl (lv_at hl 0 rfl) ?_
  refine lv_iconst (v := 0) hx hb dX7_isNode_1 (by decide) ?_
  refine lv_bipush (v := 7) hx hb dX7_isNode_2 (by decide) ?_
  refine vp_callSi (va_Run.run (va_runS (As := [.int v, .int 0, .int 7]) (rest := []) ⟨hx, hb, hml, hown, hts⟩ (c_X7_isIn l v 0 7) (va_cwS 3 hts gX7_isNode_X7_isIn rfl rfl rfl (by decide +kernel) ⟨Nat.le_of_ble_eq_true rfl, Nat.le_of_ble_eq_true rfl⟩) zpreS0 rfl rfl hl.1 rfl (lv_room (Nat.le_of_ble_eq_true rfl)) dX7_isNode_4 ⟨Nat.le_of_ble_eq_true rfl, Nat.le_of_ble_eq_true rfl⟩)) (fun r1 hr1 => ?_)
  exact W.zret (v := r1) (ty := .boolean) hx hb hr (by rcases hr1 with h | h <;> rw [h.1] <;> rfl) (fun t ht hW => ⟨r1, rfl, hr1, ht⟩) (fun _ h => absurd h List.not_mem_nil) dX7_isNode_7
set_option maxHeartbeats 4000000 in
set_option maxRecDepth 100000 in
theorem c_X7_pidOf (l : Launch) (v : Int32)  : Met l yX7_pidOf wsX7_pidOf ({ frames := 0, cells := 0, slots := 0, locals := 0 }) (va_Pc [.int v] (fun _ => True)) (vp_Si (fun r => True)) 0 0 (fun _ => False) := by
  refine Met.ofW (cc := cX7_pidOf) (maxL := 3) (ret := (some .int)) (by decide) rfl ?_
  intro p e s m args below meth c s₁ B hml hv
  obtain ⟨rfl, -⟩ := hv
  have hx := B.exec
  have hb := B.bytes
  have hr := B.returns
  have hts := atoms_spec (ws := wsX7_pidOf) B.pre
  have hown : s.vm.findClass RX7 = some m.cls := findClass_of_methodNamed B.named
  have hlocks := B.notSynchronized
  have hl := lv_entry ([.int v]) (n := 3) (Nat.le_of_ble_eq_true rfl)
  rw [lg_entry_eq]
  generalize (lg_sl ([.int v]) ++ List.replicate (3 - (lg_sl ([.int v])).length) Slot.unset).toArray = ls at hl ⊢
  have hl : lv_has ls 3 [(0, .int v)] := hl
  refine lv_iload_n hx hb dX7_pidOf_0 rfl (lv_at hl 0 rfl) ?_
  refine lv_iload_n hx hb dX7_pidOf_1 rfl (lv_at hl 0 rfl) ?_
  refine lv_iconst (v := 1) hx hb dX7_pidOf_2 (by decide) ?_
  refine lv_ishr hx hb dX7_pidOf_3 ?_
  refine lv_topi (fun v1 ev1 => ?_)
  refine lv_ixor hx hb dX7_pidOf_4 ?_
  refine lv_topi (fun v2 ev2 => ?_)
  refine lv_iload_n hx hb dX7_pidOf_5 rfl (lv_at hl 0 rfl) ?_
  refine lv_iconst (v := 2) hx hb dX7_pidOf_6 (by decide) ?_
  refine lv_ishr hx hb dX7_pidOf_7 ?_
  refine lv_topi (fun v3 ev3 => ?_)
  refine lv_ixor hx hb dX7_pidOf_8 ?_
  refine lv_topi (fun v4 ev4 => ?_)
  refine lv_iload_n hx hb dX7_pidOf_9 rfl (lv_at hl 0 rfl) ?_
  refine lv_iconst (v := 4) hx hb dX7_pidOf_10 (by decide) ?_
  refine lv_ishr hx hb dX7_pidOf_11 ?_
  refine lv_topi (fun v5 ev5 => ?_)
  refine lv_ixor hx hb dX7_pidOf_12 ?_
  refine lv_topi (fun v6 ev6 => ?_)
  refine lv_istore_n (lv' := [(1, .int v6), (0, .int v)]) hx hb dX7_pidOf_13 rfl hl (by decide) rfl (fun ls hl => ?_)
  refine lv_iconst (v := 1) hx hb dX7_pidOf_14 (by decide) ?_
  refine lv_iload_n hx hb dX7_pidOf_15 rfl (lv_at hl 1 rfl) ?_
  refine lv_iconst (v := 1) hx hb dX7_pidOf_16 (by decide) ?_
  refine lv_ishr hx hb dX7_pidOf_17 ?_
  refine lv_topi (fun v7 ev7 => ?_)
  refine lv_ixor hx hb dX7_pidOf_18 ?_
  refine lv_topi (fun v8 ev8 => ?_)
  refine lv_iload_n hx hb dX7_pidOf_19 rfl (lv_at hl 1 rfl) ?_
  refine lv_iconst (v := 3) hx hb dX7_pidOf_20 (by decide) ?_
  refine lv_ishr hx hb dX7_pidOf_21 ?_
  refine lv_topi (fun v9 ev9 => ?_)
  refine lv_ixor hx hb dX7_pidOf_22 ?_
  refine lv_topi (fun v10 ev10 => ?_)
  refine lv_iload_n hx hb dX7_pidOf_23 rfl (lv_at hl 1 rfl) ?_
  refine lv_iconst (v := 4) hx hb dX7_pidOf_24 (by decide) ?_
  refine lv_ishr hx hb dX7_pidOf_25 ?_
  refine lv_topi (fun v11 ev11 => ?_)
  refine lv_ixor hx hb dX7_pidOf_26 ?_
  refine lv_topi (fun v12 ev12 => ?_)
  refine lv_iload_n hx hb dX7_pidOf_27 rfl (lv_at hl 1 rfl) ?_
  refine lv_iconst (v := 5) hx hb dX7_pidOf_28 (by decide) ?_
  refine lv_ishr hx hb dX7_pidOf_29 ?_
  refine lv_topi (fun v13 ev13 => ?_)
  refine lv_ixor hx hb dX7_pidOf_30 ?_
  refine lv_topi (fun v14 ev14 => ?_)
  refine lv_istore_n (lv' := [(2, .int v14), (1, .int v6), (0, .int v)]) hx hb dX7_pidOf_31 rfl hl (by decide) rfl (fun ls hl => ?_)
  refine lv_iload_n hx hb dX7_pidOf_32 rfl (lv_at hl 2 rfl) ?_
  refine lv_bipush (v := 64) hx hb dX7_pidOf_33 (by decide) ?_
  refine lv_iload_n hx hb dX7_pidOf_35 rfl (lv_at hl 1 rfl) ?_
  refine lv_iconst (v := 1) hx hb dX7_pidOf_36 (by decide) ?_
  refine lv_iand hx hb dX7_pidOf_37 ?_
  refine lv_topi (fun v15 ev15 => ?_)
  refine lv_imul hx hb dX7_pidOf_38 ?_
  refine lv_topi (fun v16 ev16 => ?_)
  refine lv_iadd hx hb dX7_pidOf_39 ?_
  refine lv_topi (fun v17 ev17 => ?_)
  refine lv_sipush (v := 128) hx hb dX7_pidOf_40 (by decide) ?_
  refine lv_iload_n hx hb dX7_pidOf_43 rfl (lv_at hl 0 rfl) ?_
  refine lv_iconst (v := 1) hx hb dX7_pidOf_44 (by decide) ?_
  refine lv_iand hx hb dX7_pidOf_45 ?_
  refine lv_topi (fun v18 ev18 => ?_)
  refine lv_imul hx hb dX7_pidOf_46 ?_
  refine lv_topi (fun v19 ev19 => ?_)
  refine lv_iadd hx hb dX7_pidOf_47 ?_
  refine lv_topi (fun v20 ev20 => ?_)
  exact W.iret (v := v20) hx hb hr (fun t ht hW => ⟨v20, rfl, trivial, ht⟩) (fun _ h => absurd h List.not_mem_nil) dX7_pidOf_48
set_option maxHeartbeats 4000000 in
set_option maxRecDepth 100000 in
theorem c_X7_characterBit (l : Launch) (v k : Int32)  : Met l yX7_characterBit wsX7_characterBit ({ frames := 0, cells := 0, slots := 0, locals := 0 }) (va_Pc [.int v, .int k] (fun _ => True)) (vp_Si (fun r => True)) 0 0 (fun _ => False) := by
  refine Met.ofW (cc := cX7_characterBit) (maxL := 2) (ret := (some .int)) (by decide) rfl ?_
  intro p e s m args below meth c s₁ B hml hv
  obtain ⟨rfl, -⟩ := hv
  have hx := B.exec
  have hb := B.bytes
  have hr := B.returns
  have hts := atoms_spec (ws := wsX7_characterBit) B.pre
  have hown : s.vm.findClass RX7 = some m.cls := findClass_of_methodNamed B.named
  have hlocks := B.notSynchronized
  have hl := lv_entry ([.int v, .int k]) (n := 2) (Nat.le_of_ble_eq_true rfl)
  rw [lg_entry_eq]
  generalize (lg_sl ([.int v, .int k]) ++ List.replicate (2 - (lg_sl ([.int v, .int k])).length) Slot.unset).toArray = ls at hl ⊢
  have hl : lv_has ls 2 [(0, .int v), (1, .int k)] := hl
  refine lv_iload_n hx hb dX7_characterBit_0 rfl (lv_at hl 1 rfl) ?_
  refine lv_if_ne (tgt := 8) hx hb dX7_characterBit_1 (by decide) (fun c1 => ?_) (fun c1 => ?_)
  · skip
    refine lv_iload_n hx hb dX7_characterBit_8 rfl (lv_at hl 1 rfl) ?_
    refine lv_bipush (v := 9) hx hb dX7_characterBit_9 (by decide) ?_
    refine lv_icmp_ne (tgt := 18) hx hb dX7_characterBit_11 (by decide) (fun c2 => ?_) (fun c2 => ?_)
    · skip
      refine lv_iload_n hx hb dX7_characterBit_18 rfl (lv_at hl 0 rfl) ?_
      refine lv_iload_n hx hb dX7_characterBit_19 rfl (lv_at hl 1 rfl) ?_
      refine lv_iconst (v := 1) hx hb dX7_characterBit_20 (by decide) ?_
      refine lv_isub hx hb dX7_characterBit_21 ?_
      refine lv_topi (fun v3 ev3 => ?_)
      refine lv_ishr hx hb dX7_characterBit_22 ?_
      refine lv_topi (fun v4 ev4 => ?_)
      refine lv_iconst (v := 1) hx hb dX7_characterBit_23 (by decide) ?_
      refine lv_iand hx hb dX7_characterBit_24 ?_
      refine lv_topi (fun v5 ev5 => ?_)
      exact W.iret (v := v5) hx hb hr (fun t ht hW => ⟨v5, rfl, trivial, ht⟩) (fun _ h => absurd h List.not_mem_nil) dX7_characterBit_25
    · skip
      refine lv_iconst (v := 1) hx hb dX7_characterBit_14 (by decide) ?_
      refine lv_goto (tgt := 25) hx hb dX7_characterBit_15 (by decide) ?_
      exact W.iret (v := 1) hx hb hr (fun t ht hW => ⟨1, rfl, trivial, ht⟩) (fun _ h => absurd h List.not_mem_nil) dX7_characterBit_25
  · skip
    refine lv_iconst (v := 0) hx hb dX7_characterBit_4 (by decide) ?_
    refine lv_goto (tgt := 25) hx hb dX7_characterBit_5 (by decide) ?_
    exact W.iret (v := 0) hx hb hr (fun t ht hW => ⟨0, rfl, trivial, ht⟩) (fun _ h => absurd h List.not_mem_nil) dX7_characterBit_25
set_option maxHeartbeats 4000000 in
set_option maxRecDepth 100000 in
theorem c_X7_isFrame (l : Launch) (dC : Nat → ClassId) (dI : Nat → Nat → Nat) (cy : Nat → ClassId) (G : zG) (S : zS) (sz : Nat) (mo : Nat) (ad : Nat → Nat) (id : Int32) (hM : zM G S mo ad) : Met l yX7_isFrame wsX7_isFrame ({ frames := 1, cells := 0, slots := 0, locals := 22 }) (zP dC dI cy [.ref mo, .int id] G S sz) (vp_Si (fun r => (r = 1 ∧ ∃ j, j < 62 ∧ id = nI j ∧ ¬ S.1 (ad 1) j = 0) ∨ (r = 0 ∧ ((id < 0 ∨ 61 < id) ∨ ∃ j, j < 62 ∧ id = nI j ∧ S.1 (ad 1) j = 0)))) 0 0 (fun _ => False) := by
  refine Met.ofW (cc := cX7_isFrame) (maxL := 2) (ret := (some .boolean)) (by decide) rfl ?_
  intro p e s m args below meth c s₁ B hml hv
  obtain ⟨rfl, hsz, hP, hK, hD0, hN⟩ := hv
  have hx := B.exec
  have hb := B.bytes
  have hr := B.returns
  have hts := atoms_spec (ws := wsX7_isFrame) B.pre
  have hown : s.vm.findClass RX7 = some m.cls := findClass_of_methodNamed B.named
  have hlocks := B.notSynchronized
  subst hsz
  have hD := hD0
  have hst := zC.refl mo ad [] [] S
  have hl := lv_entry ([.ref mo, .int id]) (n := 2) (Nat.le_of_ble_eq_true rfl)
  rw [lg_entry_eq]
  generalize (lg_sl ([.ref mo, .int id]) ++ List.replicate (2 - (lg_sl ([.ref mo, .int id])).length) Slot.unset).toArray = ls at hl ⊢
  have hl : lv_has ls 2 [(0, .ref mo), (1, .int id)] := hl
  have hi7 : ∀ w ∈ wsX70, w ∈ wsX7_isFrame := by decide +kernel
  refine lv_iload_n hx hb dX7_isFrame_0 rfl (lv_at hl 1 rfl) ?_
  refine lv_iconst (v := 0) hx hb dX7_isFrame_1 (by decide) ?_
  refine lv_bipush (v := 61) hx hb dX7_isFrame_2 (by decide) ?_
  refine vp_callSi (va_Run.run (va_runS (As := [.int id, .int 0, .int 61]) (rest := []) ⟨hx, hb, hml, hown, hts⟩ (c_X7_isIn l id 0 61) (va_cwS 3 hts gX7_isFrame_X7_isIn rfl rfl rfl (by decide +kernel) ⟨Nat.le_of_ble_eq_true rfl, Nat.le_of_ble_eq_true rfl⟩) zpreS0 rfl rfl hl.1 rfl (lv_room (Nat.le_of_ble_eq_true rfl)) dX7_isFrame_4 ⟨Nat.le_of_ble_eq_true rfl, Nat.le_of_ble_eq_true rfl⟩)) (fun r1 hr1 => ?_)
  refine lv_if_eq (tgt := 23) hx hb dX7_isFrame_7 (by decide) (fun c2 => ?_) (fun c2 => ?_)
  · skip
    refine lv_iconst (v := 0) hx hb dX7_isFrame_23 (by decide) ?_
    exact W.zret (v := 0) (ty := .boolean) hx hb hr rfl (fun t ht hW => ⟨0, rfl, (Or.inr ⟨rfl, Or.inl (hr1.elim (fun q => absurd c2 (by rw [q.1]; decide)) (fun q => q.2))⟩), ht⟩) (fun _ h => absurd h List.not_mem_nil) dX7_isFrame_24
  · skip
    obtain ⟨j8, hj8, rfl⟩ := zin61 hr1 c2
    refine lv_aload_n hx hb dX7_isFrame_10 rfl (lv_at hl 0 rfl) ?_
    refine zget (ci := 7) (C := RX7) (T := TX7) (N := 42) hx hb hts hi7 hown hK hP hM.1 rfl rfl 1 (by decide) (hts (.fieldLink RX7 7 "LinClusterModel" "there" "[Z") (by decide +kernel)) (fun _ h9 => h9) (v := .ref (ad 1)) (congrArg (fun z => some (va_rf z)) (((hM.eq hst.1).2.1 1 (by decide)).1)) dX7_isFrame_11 ?_
    refine lv_iload_n hx hb dX7_isFrame_14 rfl (lv_at hl 1 rfl) ?_
    refine zzald hx hb hK hP (hM.2.1 1 (by decide)).2.1 (show G.2.2 (ad 1) = 62 from (hM.2.1 1 (by decide)).2.2) (vp_in_nI (n := j8) (N := 62) (by omega) (by omega)) dX7_isFrame_15 ?_
    refine lv_topi (fun v3 ev3 => ?_)
    rw [(nI_clamp (n := j8) (by omega))] at ev3
    refine lv_if_eq (tgt := 23) hx hb dX7_isFrame_16 (by decide) (fun c4 => ?_) (fun c4 => ?_)
    · skip
      refine lv_iconst (v := 0) hx hb dX7_isFrame_23 (by decide) ?_
      exact W.zret (v := 0) (ty := .boolean) hx hb hr rfl (fun t ht hW => ⟨0, rfl, (Or.inr ⟨rfl, Or.inr ⟨j8, hj8, rfl, ev3.symm.trans c4⟩⟩), ht⟩) (fun _ h => absurd h List.not_mem_nil) dX7_isFrame_24
    · skip
      refine lv_iconst (v := 1) hx hb dX7_isFrame_19 (by decide) ?_
      refine lv_goto (tgt := 24) hx hb dX7_isFrame_20 (by decide) ?_
      exact W.zret (v := 1) (ty := .boolean) hx hb hr rfl (fun t ht hW => ⟨1, rfl, (Or.inl ⟨rfl, j8, hj8, rfl, fun z9 => c4 (ev3.trans z9)⟩), ht⟩) (fun _ h => absurd h List.not_mem_nil) dX7_isFrame_24
set_option maxHeartbeats 4000000 in
set_option maxRecDepth 100000 in
theorem c_X7_checksum (l : Launch) (dC : Nat → ClassId) (dI : Nat → Nat → Nat) (cy : Nat → ClassId) (G : zG) (S : zS) (sz : Nat) (ao a8 L8 N9 : Nat) (fi : Int32) (hO : zO G ao 8) (hN9 : G.2.2 ao = N9) (hle : a8 + L8 ≤ N9) (hbg : N9 < 100000) : Met l yX7_checksum wsX7_checksum ({ frames := 0, cells := 0, slots := 0, locals := 0 }) (zP dC dI cy [.ref ao, .int (nI a8), .int (nI L8), .int fi] G S sz) (vp_Si (fun r => True)) 0 0 (fun _ => False) := by
  refine Met.ofW (cc := cX7_checksum) (maxL := 6) (ret := (some .int)) (by decide) rfl ?_
  intro p e s m args below meth c s₁ B hml hv
  obtain ⟨rfl, hsz, hP, hK, hD0, hN⟩ := hv
  have hx := B.exec
  have hb := B.bytes
  have hr := B.returns
  have hts := atoms_spec (ws := wsX7_checksum) B.pre
  have hown : s.vm.findClass RX7 = some m.cls := findClass_of_methodNamed B.named
  have hlocks := B.notSynchronized
  subst hsz
  have hD := hD0
  have hst := zSt.refl G S
  have hl := lv_entry ([.ref ao, .int (nI a8), .int (nI L8), .int fi]) (n := 6) (Nat.le_of_ble_eq_true rfl)
  rw [lg_entry_eq]
  generalize (lg_sl ([.ref ao, .int (nI a8), .int (nI L8), .int fi]) ++ List.replicate (6 - (lg_sl ([.ref ao, .int (nI a8), .int (nI L8), .int fi])).length) Slot.unset).toArray = ls at hl ⊢
  have hl : lv_has ls 6 [(0, .ref ao), (1, .int (nI a8)), (2, .int (nI L8)), (3, .int fi)] := hl
  refine lv_iload_n hx hb dX7_checksum_0 rfl (lv_at hl 3 rfl) ?_
  refine lv_istore (lv' := [(4, .int fi), (0, .ref ao), (1, .int (nI a8)), (2, .int (nI L8)), (3, .int fi)]) hx hb dX7_checksum_1 hl (by decide) rfl (fun ls hl => ?_)
  refine lv_iconst (v := 0) hx hb dX7_checksum_3 (by decide) ?_
  refine lv_istore (lv' := [(5, .int 0), (4, .int fi), (0, .ref ao), (1, .int (nI a8)), (2, .int (nI L8)), (3, .int fi)]) hx hb dX7_checksum_4 hl (by decide) rfl (fun ls hl => ?_)
  refine zloopR L8 (fun k9 (x9 : Int32) => [(0, .ref ao), (1, .int (nI a8)), (2, .int (nI L8)), (3, .int fi), (4, .int x9), (5, .int (nI k9))]) ?_ ?_ L8 0 fi ls (Nat.zero_add _) (lv_sub hl [2, 3, 4, 5, 1, 0] rfl)
  · intro x9 ls hl
    have hl : lv_has ls 6 [(0, .ref ao), (1, .int (nI a8)), (2, .int (nI L8)), (3, .int fi), (4, .int x9), (5, .int (nI L8))] := hl
    refine lv_iload hx hb dX7_checksum_6 (lv_at hl 5 rfl) ?_
    refine lv_iload_n hx hb dX7_checksum_8 rfl (lv_at hl 2 rfl) ?_
    refine lv_icmp_ge (tgt := 50) hx hb dX7_checksum_9 (by decide) (fun c1 => ?_) (fun c1 => ?_)
    · skip
      refine lv_sipush (v := 255) hx hb dX7_checksum_50 (by decide) ?_
      refine lv_iload hx hb dX7_checksum_53 (lv_at hl 4 rfl) ?_
      refine lv_isub hx hb dX7_checksum_55 ?_
      refine lv_topi (fun v2 ev2 => ?_)
      exact W.iret (v := v2) hx hb hr (fun t ht hW => ⟨v2, rfl, trivial, ht⟩) (fun _ h => absurd h List.not_mem_nil) dX7_checksum_56
    · exact absurd (nI_le (a := L8) (b := L8) (Nat.le_refl _) (by omega)) c1
  · intro n8 k9 x9 ls hk9 ih hl
    have hl : lv_has ls 6 [(0, .ref ao), (1, .int (nI a8)), (2, .int (nI L8)), (3, .int fi), (4, .int x9), (5, .int (nI k9))] := hl
    refine lv_iload hx hb dX7_checksum_6 (lv_at hl 5 rfl) ?_
    refine lv_iload_n hx hb dX7_checksum_8 rfl (lv_at hl 2 rfl) ?_
    refine lv_icmp_ge (tgt := 50) hx hb dX7_checksum_9 (by decide) (fun c3 => ?_) (fun c3 => ?_)
    · exact absurd c3 (nI_ge (a := k9) (b := L8) (by omega) (by omega))
    · skip
      refine lv_iload hx hb dX7_checksum_12 (lv_at hl 4 rfl) ?_
      refine lv_aload_n hx hb dX7_checksum_14 rfl (lv_at hl 0 rfl) ?_
      refine lv_iload_n hx hb dX7_checksum_15 rfl (lv_at hl 1 rfl) ?_
      refine lv_iload hx hb dX7_checksum_16 (lv_at hl 5 rfl) ?_
      refine lv_iadd hx hb dX7_checksum_18 ?_
      refine lv_topi (fun v4 ev4 => ?_)
      obtain rfl : v4 = nI (a8 + k9) := ev4.trans (nI_add a8 k9)
      refine ziald hx hb hK hP hO hN9 (vp_in_nI (n := (a8 + k9)) (by omega) (by omega)) dX7_checksum_19 ?_
      refine lv_topi (fun v5 ev5 => ?_)
      refine lv_iadd hx hb dX7_checksum_20 ?_
      refine lv_topi (fun v6 ev6 => ?_)
      refine lv_istore (lv' := [(4, .int v6), (0, .ref ao), (1, .int (nI a8)), (2, .int (nI L8)), (3, .int fi), (5, .int (nI k9))]) hx hb dX7_checksum_21 hl (by decide) rfl (fun ls hl => ?_)
      refine lv_iload hx hb dX7_checksum_23 (lv_at hl 0 rfl) ?_
      refine lv_sipush (v := 255) hx hb dX7_checksum_25 (by decide) ?_
      refine lv_icmp_le (tgt := 40) hx hb dX7_checksum_28 (by decide) (fun c7 => ?_) (fun c7 => ?_)
      · skip
        refine lv_iload hx hb dX7_checksum_40 (lv_at hl 0 rfl) ?_
        refine lv_istore (lv' := [(4, .int v6), (0, .ref ao), (1, .int (nI a8)), (2, .int (nI L8)), (3, .int fi), (5, .int (nI k9))]) hx hb dX7_checksum_42 hl (by decide) rfl (fun ls hl => ?_)
        obtain ⟨v8, ev8⟩ : ∃ y : Int32, y = (nI k9) + 1 := ⟨_, rfl⟩
        refine lv_iinc (v := v8) (lv' := [(5, .int v8), (4, .int v6), (0, .ref ao), (1, .int (nI a8)), (2, .int (nI L8)), (3, .int fi)]) hx hb dX7_checksum_44 hl (k := 5) rfl (by rw [ev8]; rfl) (by decide) rfl (fun ls hl => ?_)
        refine lv_goto (tgt := 6) hx hb dX7_checksum_47 (by decide) ?_
        have e9 : v8 = nI (k9 + 1) := by rw [ev8]; exact nI_1 k9
        rw [e9] at hl
        exact ih v6 ls (lv_sub hl [2, 3, 4, 5, 1, 0] rfl)
      · skip
        refine lv_iload hx hb dX7_checksum_31 (lv_at hl 0 rfl) ?_
        refine lv_sipush (v := 255) hx hb dX7_checksum_33 (by decide) ?_
        refine lv_isub hx hb dX7_checksum_36 ?_
        refine lv_topi (fun v9 ev9 => ?_)
        refine lv_goto (tgt := 42) hx hb dX7_checksum_37 (by decide) ?_
        refine lv_istore (lv' := [(4, .int v9), (0, .ref ao), (1, .int (nI a8)), (2, .int (nI L8)), (3, .int fi), (5, .int (nI k9))]) hx hb dX7_checksum_42 hl (by decide) rfl (fun ls hl => ?_)
        obtain ⟨v10, ev10⟩ : ∃ y : Int32, y = (nI k9) + 1 := ⟨_, rfl⟩
        refine lv_iinc (v := v10) (lv' := [(5, .int v10), (4, .int v9), (0, .ref ao), (1, .int (nI a8)), (2, .int (nI L8)), (3, .int fi)]) hx hb dX7_checksum_44 hl (k := 5) rfl (by rw [ev10]; rfl) (by decide) rfl (fun ls hl => ?_)
        refine lv_goto (tgt := 6) hx hb dX7_checksum_47 (by decide) ?_
        have e9 : v10 = nI (k9 + 1) := by rw [ev10]; exact nI_1 k9
        rw [e9] at hl
        exact ih v9 ls (lv_sub hl [2, 3, 4, 5, 1, 0] rfl)
set_option maxHeartbeats 4000000 in
set_option maxRecDepth 100000 in
theorem c_X7_isEnhanced (l : Launch) (dC : Nat → ClassId) (dI : Nat → Nat → Nat) (cy : Nat → ClassId) (G : zG) (S : zS) (sz : Nat) (mo : Nat) (ad : Nat → Nat) (j8 : Nat) (hM : zM G S mo ad) (hj8 : j8 < 62) : Met l yX7_isEnhanced wsX7_isEnhanced ({ frames := 0, cells := 0, slots := 0, locals := 0 }) (zP dC dI cy [.ref mo, .int (nI j8)] G S sz) (vp_Si (fun r => True)) 0 0 (fun _ => False) := by
  refine Met.ofW (cc := cX7_isEnhanced) (maxL := 2) (ret := (some .boolean)) (by decide) rfl ?_
  intro p e s m args below meth c s₁ B hml hv
  obtain ⟨rfl, hsz, hP, hK, hD0, hN⟩ := hv
  have hx := B.exec
  have hb := B.bytes
  have hr := B.returns
  have hts := atoms_spec (ws := wsX7_isEnhanced) B.pre
  have hown : s.vm.findClass RX7 = some m.cls := findClass_of_methodNamed B.named
  have hlocks := B.notSynchronized
  subst hsz
  have hD := hD0
  have hst := zC.refl mo ad [] [] S
  have hl := lv_entry ([.ref mo, .int (nI j8)]) (n := 2) (Nat.le_of_ble_eq_true rfl)
  rw [lg_entry_eq]
  generalize (lg_sl ([.ref mo, .int (nI j8)]) ++ List.replicate (2 - (lg_sl ([.ref mo, .int (nI j8)])).length) Slot.unset).toArray = ls at hl ⊢
  have hl : lv_has ls 2 [(0, .ref mo), (1, .int (nI j8))] := hl
  have hi7 : ∀ w ∈ wsX70, w ∈ wsX7_isEnhanced := by decide +kernel
  refine lv_aload_n hx hb dX7_isEnhanced_0 rfl (lv_at hl 0 rfl) ?_
  refine zget (ci := 7) (C := RX7) (T := TX7) (N := 42) hx hb hts hi7 hown hK hP hM.1 rfl rfl 4 (by decide) (hts (.fieldLink RX7 20 "LinClusterModel" "enhanced" "[Z") (by decide +kernel)) (fun _ h9 => h9) (v := .ref (ad 4)) (congrArg (fun z => some (va_rf z)) (((hM.eq hst.1).2.1 4 (by decide)).1)) dX7_isEnhanced_1 ?_
  refine lv_iload_n hx hb dX7_isEnhanced_4 rfl (lv_at hl 1 rfl) ?_
  refine zzald hx hb hK hP (hM.2.1 4 (by decide)).2.1 (show G.2.2 (ad 4) = 62 from (hM.2.1 4 (by decide)).2.2) (vp_in_nI (n := j8) (N := 62) (by omega) (by omega)) dX7_isEnhanced_5 ?_
  refine lv_topi (fun v1 ev1 => ?_)
  rw [(nI_clamp (n := j8) (by omega))] at ev1
  refine lv_if_eq (tgt := 19) hx hb dX7_isEnhanced_6 (by decide) (fun c2 => ?_) (fun c2 => ?_)
  · skip
    refine lv_iconst (v := 0) hx hb dX7_isEnhanced_19 (by decide) ?_
    exact W.zret (v := 0) (ty := .boolean) hx hb hr rfl (fun t ht hW => ⟨0, rfl, trivial, ht⟩) (fun _ h => absurd h List.not_mem_nil) dX7_isEnhanced_20
  · skip
    refine lv_iload_n hx hb dX7_isEnhanced_9 rfl (lv_at hl 1 rfl) ?_
    refine lv_bipush (v := 60) hx hb dX7_isEnhanced_10 (by decide) ?_
    refine lv_icmp_ge (tgt := 19) hx hb dX7_isEnhanced_12 (by decide) (fun c3 => ?_) (fun c3 => ?_)
    · skip
      refine lv_iconst (v := 0) hx hb dX7_isEnhanced_19 (by decide) ?_
      exact W.zret (v := 0) (ty := .boolean) hx hb hr rfl (fun t ht hW => ⟨0, rfl, trivial, ht⟩) (fun _ h => absurd h List.not_mem_nil) dX7_isEnhanced_20
    · skip
      refine lv_iconst (v := 1) hx hb dX7_isEnhanced_15 (by decide) ?_
      refine lv_goto (tgt := 20) hx hb dX7_isEnhanced_16 (by decide) ?_
      exact W.zret (v := 1) (ty := .boolean) hx hb hr rfl (fun t ht hW => ⟨1, rfl, trivial, ht⟩) (fun _ h => absurd h List.not_mem_nil) dX7_isEnhanced_20
set_option maxHeartbeats 4000000 in
set_option maxRecDepth 100000 in
theorem c_X7_headerBit (l : Launch) (dC : Nat → ClassId) (dI : Nat → Nat → Nat) (cy : Nat → ClassId) (G : zG) (S : zS) (sz : Nat) (mo : Nat) (ad : Nat → Nat) (v : Int32) (q8 : Nat) (hM : zM G S mo ad) (hq8 : q8 < 16) (eq8 : S.1 mo 34 = nI q8) : Met l yX7_headerBit wsX7_headerBit ({ frames := 1, cells := 0, slots := 0, locals := 22 }) (zP dC dI cy [.ref mo, .int v] G S sz) (vp_Si (fun r => True)) 0 0 (fun _ => False) := by
  refine Met.ofW (cc := cX7_headerBit) (maxL := 2) (ret := (some .int)) (by decide) rfl ?_
  intro p e s m args below meth c s₁ B hml hv
  obtain ⟨rfl, hsz, hP, hK, hD0, hN⟩ := hv
  have hx := B.exec
  have hb := B.bytes
  have hr := B.returns
  have hts := atoms_spec (ws := wsX7_headerBit) B.pre
  have hown : s.vm.findClass RX7 = some m.cls := findClass_of_methodNamed B.named
  have hlocks := B.notSynchronized
  subst hsz
  have hD := hD0
  have hst := zC.refl mo ad [] [] S
  have hl := lv_entry ([.ref mo, .int v]) (n := 2) (Nat.le_of_ble_eq_true rfl)
  rw [lg_entry_eq]
  generalize (lg_sl ([.ref mo, .int v]) ++ List.replicate (2 - (lg_sl ([.ref mo, .int v])).length) Slot.unset).toArray = ls at hl ⊢
  have hl : lv_has ls 2 [(0, .ref mo), (1, .int v)] := hl
  have hi7 : ∀ w ∈ wsX70, w ∈ wsX7_headerBit := by decide +kernel
  refine lv_iload_n hx hb dX7_headerBit_0 rfl (lv_at hl 1 rfl) ?_
  refine lv_bipush (v := 13) hx hb dX7_headerBit_1 (by decide) ?_
  refine lv_icmp_ge (tgt := 10) hx hb dX7_headerBit_3 (by decide) (fun c1 => ?_) (fun c1 => ?_)
  · skip
    refine lv_iload_n hx hb dX7_headerBit_10 rfl (lv_at hl 1 rfl) ?_
    refine lv_bipush (v := 13) hx hb dX7_headerBit_11 (by decide) ?_
    refine lv_icmp_ne (tgt := 20) hx hb dX7_headerBit_13 (by decide) (fun c2 => ?_) (fun c2 => ?_)
    · skip
      refine lv_iload_n hx hb dX7_headerBit_20 rfl (lv_at hl 1 rfl) ?_
      refine lv_bipush (v := 24) hx hb dX7_headerBit_21 (by decide) ?_
      refine lv_icmp_ge (tgt := 38) hx hb dX7_headerBit_23 (by decide) (fun c3 => ?_) (fun c3 => ?_)
      · skip
        refine lv_aload_n hx hb dX7_headerBit_38 rfl (lv_at hl 0 rfl) ?_
        refine zget (ci := 7) (C := RX7) (T := TX7) (N := 42) hx hb hts hi7 hown hK hP hM.1 rfl rfl 10 (by decide) (hts (.fieldLink RX7 35 "LinClusterModel" "slotIds" "[I") (by decide +kernel)) (fun _ h9 => h9) (v := .ref (ad 10)) (congrArg (fun z => some (va_rf z)) (((hM.eq hst.1).2.1 10 (by decide)).1)) dX7_headerBit_39 ?_
        refine lv_aload_n hx hb dX7_headerBit_42 rfl (lv_at hl 0 rfl) ?_
        refine zget (ci := 7) (C := RX7) (T := TX7) (N := 42) hx hb hts hi7 hown hK hP hM.1 rfl rfl 34 (by decide) (hts (.fieldLink RX7 104 "LinClusterModel" "slot" "I") (by decide +kernel)) (fun _ h9 => h9) rfl dX7_headerBit_43 ?_
        refine lv_topi (fun v4 ev4 => ?_)
        obtain rfl : v4 = (nI q8) := ev4.trans eq8
        refine ziald hx hb hK hP (hM.2.1 10 (by decide)).2.1 (show G.2.2 (ad 10) = 16 from (hM.2.1 10 (by decide)).2.2) (vp_in_nI (n := q8) (N := 16) (by omega) (by omega)) dX7_headerBit_46 ?_
        refine lv_topi (fun v5 ev5 => ?_)
        rw [(nI_clamp (n := q8) (by omega))] at ev5
        refine vp_callSi (va_Run.run (va_runS (As := [.int v5]) (rest := []) ⟨hx, hb, hml, hown, hts⟩ (c_X7_pidOf l v5) (va_cwS 1 hts gX7_headerBit_X7_pidOf rfl rfl rfl (by decide +kernel) ⟨Nat.le_of_ble_eq_true rfl, Nat.le_of_ble_eq_true rfl⟩) zpreS0 rfl rfl hl.1 rfl (lv_room (Nat.le_of_ble_eq_true rfl)) dX7_headerBit_47 ⟨Nat.le_of_ble_eq_true rfl, Nat.le_of_ble_eq_true rfl⟩)) (fun r6 hr6 => ?_)
        refine lv_iload_n hx hb dX7_headerBit_50 rfl (lv_at hl 1 rfl) ?_
        refine lv_bipush (v := 24) hx hb dX7_headerBit_51 (by decide) ?_
        refine lv_isub hx hb dX7_headerBit_53 ?_
        refine lv_topi (fun v7 ev7 => ?_)
        refine vp_callSi (va_Run.run (va_runS (As := [.int r6, .int v7]) (rest := []) ⟨hx, hb, hml, hown, hts⟩ (c_X7_characterBit l r6 v7) (va_cwS 2 hts gX7_headerBit_X7_characterBit rfl rfl rfl (by decide +kernel) ⟨Nat.le_of_ble_eq_true rfl, Nat.le_of_ble_eq_true rfl⟩) zpreS0 rfl rfl hl.1 rfl (lv_room (Nat.le_of_ble_eq_true rfl)) dX7_headerBit_54 ⟨Nat.le_of_ble_eq_true rfl, Nat.le_of_ble_eq_true rfl⟩)) (fun r8 hr8 => ?_)
        exact W.iret (v := r8) hx hb hr (fun t ht hW => ⟨r8, rfl, trivial, ht⟩) (fun _ h => absurd h List.not_mem_nil) dX7_headerBit_57
      · skip
        refine lv_bipush (v := 85) hx hb dX7_headerBit_26 (by decide) ?_
        refine lv_iload_n hx hb dX7_headerBit_28 rfl (lv_at hl 1 rfl) ?_
        refine lv_bipush (v := 14) hx hb dX7_headerBit_29 (by decide) ?_
        refine lv_isub hx hb dX7_headerBit_31 ?_
        refine lv_topi (fun v9 ev9 => ?_)
        refine vp_callSi (va_Run.run (va_runS (As := [.int 85, .int v9]) (rest := []) ⟨hx, hb, hml, hown, hts⟩ (c_X7_characterBit l 85 v9) (va_cwS 2 hts gX7_headerBit_X7_characterBit rfl rfl rfl (by decide +kernel) ⟨Nat.le_of_ble_eq_true rfl, Nat.le_of_ble_eq_true rfl⟩) zpreS0 rfl rfl hl.1 rfl (lv_room (Nat.le_of_ble_eq_true rfl)) dX7_headerBit_32 ⟨Nat.le_of_ble_eq_true rfl, Nat.le_of_ble_eq_true rfl⟩)) (fun r10 hr10 => ?_)
        refine lv_goto (tgt := 57) hx hb dX7_headerBit_35 (by decide) ?_
        exact W.iret (v := r10) hx hb hr (fun t ht hW => ⟨r10, rfl, trivial, ht⟩) (fun _ h => absurd h List.not_mem_nil) dX7_headerBit_57
    · skip
      refine lv_iconst (v := 1) hx hb dX7_headerBit_16 (by decide) ?_
      refine lv_goto (tgt := 57) hx hb dX7_headerBit_17 (by decide) ?_
      exact W.iret (v := 1) hx hb hr (fun t ht hW => ⟨1, rfl, trivial, ht⟩) (fun _ h => absurd h List.not_mem_nil) dX7_headerBit_57
  · skip
    refine lv_iconst (v := 0) hx hb dX7_headerBit_6 (by decide) ?_
    refine lv_goto (tgt := 57) hx hb dX7_headerBit_7 (by decide) ?_
    exact W.iret (v := 0) hx hb hr (fun t ht hW => ⟨0, rfl, trivial, ht⟩) (fun _ h => absurd h List.not_mem_nil) dX7_headerBit_57
set_option maxHeartbeats 4000000 in
set_option maxRecDepth 100000 in
theorem c_X7_sayingBit (l : Launch) (dC : Nat → ClassId) (dI : Nat → Nat → Nat) (cy : Nat → ClassId) (G : zG) (S : zS) (sz : Nat) (mo : Nat) (ad : Nat → Nat) (n8 q8 : Nat) (hM : zM G S mo ad) (hn8 : n8 < 8) (hq8 : q8 < 160) (eq8 : S.1 (ad 30) n8 = nI q8) : Met l yX7_sayingBit wsX7_sayingBit ({ frames := 1, cells := 0, slots := 0, locals := 21 }) (zP dC dI cy [.ref mo, .int (nI n8)] G S sz) (vp_Si (fun r => True)) 0 0 (fun _ => False) := by
  refine Met.ofW (cc := cX7_sayingBit) (maxL := 2) (ret := (some .int)) (by decide) rfl ?_
  intro p e s m args below meth c s₁ B hml hv
  obtain ⟨rfl, hsz, hP, hK, hD0, hN⟩ := hv
  have hx := B.exec
  have hb := B.bytes
  have hr := B.returns
  have hts := atoms_spec (ws := wsX7_sayingBit) B.pre
  have hown : s.vm.findClass RX7 = some m.cls := findClass_of_methodNamed B.named
  have hlocks := B.notSynchronized
  subst hsz
  have hD := hD0
  have hst := zC.refl mo ad [] [] S
  have hl := lv_entry ([.ref mo, .int (nI n8)]) (n := 2) (Nat.le_of_ble_eq_true rfl)
  rw [lg_entry_eq]
  generalize (lg_sl ([.ref mo, .int (nI n8)]) ++ List.replicate (2 - (lg_sl ([.ref mo, .int (nI n8)])).length) Slot.unset).toArray = ls at hl ⊢
  have hl : lv_has ls 2 [(0, .ref mo), (1, .int (nI n8))] := hl
  have hi7 : ∀ w ∈ wsX70, w ∈ wsX7_sayingBit := by decide +kernel
  refine lv_aload_n hx hb dX7_sayingBit_0 rfl (lv_at hl 0 rfl) ?_
  refine zget (ci := 7) (C := RX7) (T := TX7) (N := 42) hx hb hts hi7 hown hK hP hM.1 rfl rfl 29 (by decide) (hts (.fieldLink RX7 92 "LinClusterModel" "row" "[I") (by decide +kernel)) (fun _ h9 => h9) (v := .ref (ad 29)) (congrArg (fun z => some (va_rf z)) (((hM.eq hst.1).2.1 29 (by decide)).1)) dX7_sayingBit_1 ?_
  refine lv_bipush (v := 16) hx hb dX7_sayingBit_4 (by decide) ?_
  refine lv_iload_n hx hb dX7_sayingBit_6 rfl (lv_at hl 1 rfl) ?_
  refine lv_imul hx hb dX7_sayingBit_7 ?_
  refine lv_topi (fun v1 ev1 => ?_)
  obtain rfl : v1 = nI (16 * n8) := ev1.trans (pk_mul 16 n8)
  refine lv_aload_n hx hb dX7_sayingBit_8 rfl (lv_at hl 0 rfl) ?_
  refine zget (ci := 7) (C := RX7) (T := TX7) (N := 42) hx hb hts hi7 hown hK hP hM.1 rfl rfl 30 (by decide) (hts (.fieldLink RX7 95 "LinClusterModel" "saidBits" "[I") (by decide +kernel)) (fun _ h9 => h9) (v := .ref (ad 30)) (congrArg (fun z => some (va_rf z)) (((hM.eq hst.1).2.1 30 (by decide)).1)) dX7_sayingBit_9 ?_
  refine lv_iload_n hx hb dX7_sayingBit_12 rfl (lv_at hl 1 rfl) ?_
  refine ziald hx hb hK hP (hM.2.1 30 (by decide)).2.1 (show G.2.2 (ad 30) = 8 from (hM.2.1 30 (by decide)).2.2) (vp_in_nI (n := n8) (N := 8) (by omega) (by omega)) dX7_sayingBit_13 ?_
  refine lv_topi (fun v2 ev2 => ?_)
  rw [(nI_clamp (n := n8) (by omega))] at ev2
  obtain rfl : v2 = (nI q8) := ev2.trans eq8
  refine lv_bipush (v := 10) hx hb dX7_sayingBit_14 (by decide) ?_
  refine lv_idiv hx hb dX7_sayingBit_16 (by decide) ?_
  refine lv_topi (fun v3 ev3 => ?_)
  obtain rfl : v3 = nI (q8 / 10) := ev3.trans (pk_div (a := q8) (d := 10) (by omega) (by omega) (by omega))
  refine lv_iadd hx hb dX7_sayingBit_17 ?_
  refine lv_topi (fun v4 ev4 => ?_)
  obtain rfl : v4 = nI ((16 * n8) + (q8 / 10)) := ev4.trans (nI_add (16 * n8) (q8 / 10))
  refine ziald hx hb hK hP (hM.2.1 29 (by decide)).2.1 (show G.2.2 (ad 29) = 128 from (hM.2.1 29 (by decide)).2.2) (vp_in_nI (n := ((16 * n8) + (q8 / 10))) (N := 128) (by omega) (by omega)) dX7_sayingBit_18 ?_
  refine lv_topi (fun v5 ev5 => ?_)
  rw [(nI_clamp (n := ((16 * n8) + (q8 / 10))) (by omega))] at ev5
  refine lv_aload_n hx hb dX7_sayingBit_19 rfl (lv_at hl 0 rfl) ?_
  refine zget (ci := 7) (C := RX7) (T := TX7) (N := 42) hx hb hts hi7 hown hK hP hM.1 rfl rfl 30 (by decide) (hts (.fieldLink RX7 95 "LinClusterModel" "saidBits" "[I") (by decide +kernel)) (fun _ h9 => h9) (v := .ref (ad 30)) (congrArg (fun z => some (va_rf z)) (((hM.eq hst.1).2.1 30 (by decide)).1)) dX7_sayingBit_20 ?_
  refine lv_iload_n hx hb dX7_sayingBit_23 rfl (lv_at hl 1 rfl) ?_
  refine ziald hx hb hK hP (hM.2.1 30 (by decide)).2.1 (show G.2.2 (ad 30) = 8 from (hM.2.1 30 (by decide)).2.2) (vp_in_nI (n := n8) (N := 8) (by omega) (by omega)) dX7_sayingBit_24 ?_
  refine lv_topi (fun v6 ev6 => ?_)
  rw [(nI_clamp (n := n8) (by omega))] at ev6
  obtain rfl : v6 = (nI q8) := ev6.trans eq8
  refine lv_bipush (v := 10) hx hb dX7_sayingBit_25 (by decide) ?_
  refine lv_irem hx hb dX7_sayingBit_27 (by decide) ?_
  refine lv_topi (fun v7 ev7 => ?_)
  refine vp_callSi (va_Run.run (va_runS (As := [.int v5, .int v7]) (rest := []) ⟨hx, hb, hml, hown, hts⟩ (c_X7_characterBit l v5 v7) (va_cwS 2 hts gX7_sayingBit_X7_characterBit rfl rfl rfl (by decide +kernel) ⟨Nat.le_of_ble_eq_true rfl, Nat.le_of_ble_eq_true rfl⟩) zpreS0 rfl rfl hl.1 rfl (lv_room (Nat.le_of_ble_eq_true rfl)) dX7_sayingBit_28 ⟨Nat.le_of_ble_eq_true rfl, Nat.le_of_ble_eq_true rfl⟩)) (fun r8 hr8 => ?_)
  exact W.iret (v := r8) hx hb hr (fun t ht hW => ⟨r8, rfl, trivial, ht⟩) (fun _ h => absurd h List.not_mem_nil) dX7_sayingBit_31
set_option maxHeartbeats 4000000 in
set_option maxRecDepth 100000 in
theorem c_X7_error (l : Launch) (dC : Nat → ClassId) (dI : Nat → Nat → Nat) (cy : Nat → ClassId) (G : zG) (S : zS) (sz : Nat) (mo : Nat) (ad : Nat → Nat) (n8 : Nat) (hM : zM G S mo ad) (hn8 : n8 < 8) : Met l yX7_error wsX7_error ({ frames := 0, cells := 0, slots := 0, locals := 0 }) (zP dC dI cy [.ref mo, .int (nI n8)] G S sz) (va_Qv (fun S' => zC mo ad [17, 21] [] S S') (zB dC dI cy (zA cy G S sz) G) (zA cy G S sz)) 0 0 (zA cy G S sz) := by
  refine Met.ofW (cc := cX7_error) (maxL := 2) (ret := none) (by decide) rfl ?_
  intro p e s m args below meth c s₁ B hml hv
  obtain ⟨rfl, hsz, hP, hK, hD0, hN⟩ := hv
  have hx := B.exec
  have hb := B.bytes
  have hr := B.returns
  have hts := atoms_spec (ws := wsX7_error) B.pre
  have hown : s.vm.findClass RX7 = some m.cls := findClass_of_methodNamed B.named
  have hlocks := B.notSynchronized
  subst hsz
  have hD : va_D (zA cy G S s.heap.size) (zW cy G S) := hD0.self
  generalize hAe : zA cy G S s.heap.size = A at hD ⊢
  have hA : ∀ q : Nat, s.heap.size ≤ q → A q := fun q h => by rw [← hAe]; exact Or.inr h
  have hS : va_S A s.heap s.heap [] := va_S.rf
  have hst := zC.refl mo ad [17, 21] [] S
  have hl := lv_entry ([.ref mo, .int (nI n8)]) (n := 2) (Nat.le_of_ble_eq_true rfl)
  rw [lg_entry_eq]
  generalize (lg_sl ([.ref mo, .int (nI n8)]) ++ List.replicate (2 - (lg_sl ([.ref mo, .int (nI n8)])).length) Slot.unset).toArray = ls at hl ⊢
  have hl : lv_has ls 2 [(0, .ref mo), (1, .int (nI n8))] := hl
  have hi7 : ∀ w ∈ wsX70, w ∈ wsX7_error := by decide +kernel
  refine lv_aload_n hx hb dX7_error_0 rfl (lv_at hl 0 rfl) ?_
  refine zget (ci := 7) (C := RX7) (T := TX7) (N := 42) hx hb hts hi7 hown hK hP hM.1 rfl rfl 17 (by decide) (hts (.fieldLink RX7 56 "LinClusterModel" "errors" "[Z") (by decide +kernel)) (fun _ h9 => h9) (v := .ref (ad 17)) (congrArg (fun z => some (va_rf z)) (((hM.eq hst.1).2.1 17 (by decide)).1)) dX7_error_1 ?_
  refine lv_iload_n hx hb dX7_error_4 rfl (lv_at hl 1 rfl) ?_
  refine lv_iconst (v := 1) hx hb dX7_error_5 (by decide) ?_
  refine zzast (x := 1) hx hb hK hP hD hS (hM.2.1 17 (by decide)).2.1 (show G.2.2 (ad 17) = 8 from (hM.2.1 17 (by decide)).2.2) (vp_in_nI (n := n8) (N := 8) (by omega) (by omega)) dX7_error_6 (fun H locs hP hD hS => ?_)
  rw [(nI_clamp (n := n8) (by omega))] at hP hD
  have hst := zC.pa hM hst (k := 17) (by decide) (by decide) n8 (vp_nar .boolean 1)
  have kn1 := zpi_s S (ad 17) n8 (vp_nar .boolean 1)
  refine lv_aload_n hx hb dX7_error_7 rfl (lv_at hl 0 rfl) ?_
  refine zget (ci := 7) (C := RX7) (T := TX7) (N := 42) hx hb hts hi7 hown hK hP hM.1 rfl rfl 21 (by decide) (hts (.fieldLink RX7 68 "LinClusterModel" "errorCounts" "[I") (by decide +kernel)) (fun _ h9 => h9) (v := .ref (ad 21)) (congrArg (fun z => some (va_rf z)) (((hM.eq hst.1).2.1 21 (by decide)).1)) dX7_error_8 ?_
  refine lv_iload_n hx hb dX7_error_11 rfl (lv_at hl 1 rfl) ?_
  refine lv_dup2_11 hx hb dX7_error_12 rfl rfl ?_
  refine ziald hx hb hK hP (hM.2.1 21 (by decide)).2.1 (show G.2.2 (ad 21) = 8 from (hM.2.1 21 (by decide)).2.2) (vp_in_nI (n := n8) (N := 8) (by omega) (by omega)) dX7_error_13 ?_
  refine lv_topi (fun v2 ev2 => ?_)
  rw [(nI_clamp (n := n8) (by omega))] at ev2
  refine lv_iconst (v := 1) hx hb dX7_error_14 (by decide) ?_
  refine lv_iadd hx hb dX7_error_15 ?_
  refine lv_topi (fun v3 ev3 => ?_)
  refine ziast (x := v3) hx hb hK hP hD hS (hM.2.1 21 (by decide)).2.1 (show G.2.2 (ad 21) = 8 from (hM.2.1 21 (by decide)).2.2) (vp_in_nI (n := n8) (N := 8) (by omega) (by omega)) dX7_error_16 (fun H locs hP hD hS => ?_)
  rw [(nI_clamp (n := n8) (by omega))] at hP hD
  have hst := zC.pa hM hst (k := 21) (by decide) (by decide) n8 v3
  have kn4 := zpi_o hM (zpi S (ad 17) n8 (vp_nar .boolean 1)) (i := 17) (k := 21) (by decide) (by decide) (by decide) n8 v3 kn1
  have kn5 := zpi_s (zpi S (ad 17) n8 (vp_nar .boolean 1)) (ad 21) n8 v3
  exact W.vret hx hb hr (fun t ht hW => ⟨⟨(zpi (zpi S (ad 17) n8 (vp_nar .boolean 1)) (ad 21) n8 v3), rfl, hst, by rw [ht]; exact hP, va_K.moved hW.alike hK, hD⟩, hS.F ht⟩) hS.2.2 dX7_error_17
set_option maxHeartbeats 4000000 in
set_option maxRecDepth 100000 in
theorem c_X7_collects (l : Launch) (dC : Nat → ClassId) (dI : Nat → Nat → Nat) (cy : Nat → ClassId) (G : zG) (S : zS) (sz : Nat) (mo : Nat) (ad : Nat → Nat) (n8 : Nat) (v : Int32) (hM : zM G S mo ad) (hn8 : n8 < 8) : Met l yX7_collects wsX7_collects ({ frames := 0, cells := 0, slots := 0, locals := 0 }) (zP dC dI cy [.ref mo, .int (nI n8), .int v] G S sz) (va_Qi (fun (r : Int32) S' => zC mo ad [25, 26] [] S S') (zB dC dI cy (zA cy G S sz) G) (zA cy G S sz)) 0 0 (zA cy G S sz) := by
  refine Met.ofW (cc := cX7_collects) (maxL := 3) (ret := (some .boolean)) (by decide) rfl ?_
  intro p e s m args below meth c s₁ B hml hv
  obtain ⟨rfl, hsz, hP, hK, hD0, hN⟩ := hv
  have hx := B.exec
  have hb := B.bytes
  have hr := B.returns
  have hts := atoms_spec (ws := wsX7_collects) B.pre
  have hown : s.vm.findClass RX7 = some m.cls := findClass_of_methodNamed B.named
  have hlocks := B.notSynchronized
  subst hsz
  have hD : va_D (zA cy G S s.heap.size) (zW cy G S) := hD0.self
  generalize hAe : zA cy G S s.heap.size = A at hD ⊢
  have hA : ∀ q : Nat, s.heap.size ≤ q → A q := fun q h => by rw [← hAe]; exact Or.inr h
  have hS : va_S A s.heap s.heap [] := va_S.rf
  have hst := zC.refl mo ad [25, 26] [] S
  have hl := lv_entry ([.ref mo, .int (nI n8), .int v]) (n := 3) (Nat.le_of_ble_eq_true rfl)
  rw [lg_entry_eq]
  generalize (lg_sl ([.ref mo, .int (nI n8), .int v]) ++ List.replicate (3 - (lg_sl ([.ref mo, .int (nI n8), .int v])).length) Slot.unset).toArray = ls at hl ⊢
  have hl : lv_has ls 3 [(0, .ref mo), (1, .int (nI n8)), (2, .int v)] := hl
  have hi7 : ∀ w ∈ wsX70, w ∈ wsX7_collects := by decide +kernel
  refine lv_aload_n hx hb dX7_collects_0 rfl (lv_at hl 0 rfl) ?_
  refine zget (ci := 7) (C := RX7) (T := TX7) (N := 42) hx hb hts hi7 hown hK hP hM.1 rfl rfl 25 (by decide) (hts (.fieldLink RX7 80 "LinClusterModel" "bitsSoFar" "[I") (by decide +kernel)) (fun _ h9 => h9) (v := .ref (ad 25)) (congrArg (fun z => some (va_rf z)) (((hM.eq hst.1).2.1 25 (by decide)).1)) dX7_collects_1 ?_
  refine lv_iload_n hx hb dX7_collects_4 rfl (lv_at hl 1 rfl) ?_
  refine ziald hx hb hK hP (hM.2.1 25 (by decide)).2.1 (show G.2.2 (ad 25) = 8 from (hM.2.1 25 (by decide)).2.2) (vp_in_nI (n := n8) (N := 8) (by omega) (by omega)) dX7_collects_5 ?_
  refine lv_topi (fun v1 ev1 => ?_)
  rw [(nI_clamp (n := n8) (by omega))] at ev1
  refine lv_if_ne (tgt := 29) hx hb dX7_collects_6 (by decide) (fun c2 => ?_) (fun c2 => ?_)
  · skip
    refine lv_aload_n hx hb dX7_collects_29 rfl (lv_at hl 0 rfl) ?_
    refine zget (ci := 7) (C := RX7) (T := TX7) (N := 42) hx hb hts hi7 hown hK hP hM.1 rfl rfl 26 (by decide) (hts (.fieldLink RX7 83 "LinClusterModel" "values" "[I") (by decide +kernel)) (fun _ h9 => h9) (v := .ref (ad 26)) (congrArg (fun z => some (va_rf z)) (((hM.eq hst.1).2.1 26 (by decide)).1)) dX7_collects_30 ?_
    refine lv_iload_n hx hb dX7_collects_33 rfl (lv_at hl 1 rfl) ?_
    refine lv_dup2_11 hx hb dX7_collects_34 rfl rfl ?_
    refine ziald hx hb hK hP (hM.2.1 26 (by decide)).2.1 (show G.2.2 (ad 26) = 8 from (hM.2.1 26 (by decide)).2.2) (vp_in_nI (n := n8) (N := 8) (by omega) (by omega)) dX7_collects_35 ?_
    refine lv_topi (fun v3 ev3 => ?_)
    rw [(nI_clamp (n := n8) (by omega))] at ev3
    refine lv_iload_n hx hb dX7_collects_36 rfl (lv_at hl 2 rfl) ?_
    refine lv_aload_n hx hb dX7_collects_37 rfl (lv_at hl 0 rfl) ?_
    refine zget (ci := 7) (C := RX7) (T := TX7) (N := 42) hx hb hts hi7 hown hK hP hM.1 rfl rfl 25 (by decide) (hts (.fieldLink RX7 80 "LinClusterModel" "bitsSoFar" "[I") (by decide +kernel)) (fun _ h9 => h9) (v := .ref (ad 25)) (congrArg (fun z => some (va_rf z)) (((hM.eq hst.1).2.1 25 (by decide)).1)) dX7_collects_38 ?_
    refine lv_iload_n hx hb dX7_collects_41 rfl (lv_at hl 1 rfl) ?_
    refine ziald hx hb hK hP (hM.2.1 25 (by decide)).2.1 (show G.2.2 (ad 25) = 8 from (hM.2.1 25 (by decide)).2.2) (vp_in_nI (n := n8) (N := 8) (by omega) (by omega)) dX7_collects_42 ?_
    refine lv_topi (fun v4 ev4 => ?_)
    rw [(nI_clamp (n := n8) (by omega))] at ev4
    refine lv_iconst (v := 1) hx hb dX7_collects_43 (by decide) ?_
    refine lv_isub hx hb dX7_collects_44 ?_
    refine lv_topi (fun v5 ev5 => ?_)
    refine lv_ishl hx hb dX7_collects_45 ?_
    refine lv_topi (fun v6 ev6 => ?_)
    refine lv_ior hx hb dX7_collects_46 ?_
    refine lv_topi (fun v7 ev7 => ?_)
    refine ziast (x := v7) hx hb hK hP hD hS (hM.2.1 26 (by decide)).2.1 (show G.2.2 (ad 26) = 8 from (hM.2.1 26 (by decide)).2.2) (vp_in_nI (n := n8) (N := 8) (by omega) (by omega)) dX7_collects_47 (fun H locs hP hD hS => ?_)
    rw [(nI_clamp (n := n8) (by omega))] at hP hD
    have hst := zC.pa hM hst (k := 26) (by decide) (by decide) n8 v7
    have kn8 := zpi_s S (ad 26) n8 v7
    refine lv_aload_n hx hb dX7_collects_48 rfl (lv_at hl 0 rfl) ?_
    refine zget (ci := 7) (C := RX7) (T := TX7) (N := 42) hx hb hts hi7 hown hK hP hM.1 rfl rfl 25 (by decide) (hts (.fieldLink RX7 80 "LinClusterModel" "bitsSoFar" "[I") (by decide +kernel)) (fun _ h9 => h9) (v := .ref (ad 25)) (congrArg (fun z => some (va_rf z)) (((hM.eq hst.1).2.1 25 (by decide)).1)) dX7_collects_49 ?_
    refine lv_iload_n hx hb dX7_collects_52 rfl (lv_at hl 1 rfl) ?_
    refine lv_dup2_11 hx hb dX7_collects_53 rfl rfl ?_
    refine ziald hx hb hK hP (hM.2.1 25 (by decide)).2.1 (show G.2.2 (ad 25) = 8 from (hM.2.1 25 (by decide)).2.2) (vp_in_nI (n := n8) (N := 8) (by omega) (by omega)) dX7_collects_54 ?_
    refine lv_topi (fun v9 ev9 => ?_)
    rw [(nI_clamp (n := n8) (by omega))] at ev9
    refine lv_iconst (v := 1) hx hb dX7_collects_55 (by decide) ?_
    refine lv_iadd hx hb dX7_collects_56 ?_
    refine lv_topi (fun v10 ev10 => ?_)
    refine ziast (x := v10) hx hb hK hP hD hS (hM.2.1 25 (by decide)).2.1 (show G.2.2 (ad 25) = 8 from (hM.2.1 25 (by decide)).2.2) (vp_in_nI (n := n8) (N := 8) (by omega) (by omega)) dX7_collects_57 (fun H locs hP hD hS => ?_)
    rw [(nI_clamp (n := n8) (by omega))] at hP hD
    have hst := zC.pa hM hst (k := 25) (by decide) (by decide) n8 v10
    have kn11 := zpi_o hM (zpi S (ad 26) n8 v7) (i := 26) (k := 25) (by decide) (by decide) (by decide) n8 v10 kn8
    have kn12 := zpi_s (zpi S (ad 26) n8 v7) (ad 25) n8 v10
    refine lv_aload_n hx hb dX7_collects_58 rfl (lv_at hl 0 rfl) ?_
    refine zget (ci := 7) (C := RX7) (T := TX7) (N := 42) hx hb hts hi7 hown hK hP hM.1 rfl rfl 25 (by decide) (hts (.fieldLink RX7 80 "LinClusterModel" "bitsSoFar" "[I") (by decide +kernel)) (fun _ h9 => h9) (v := .ref (ad 25)) (congrArg (fun z => some (va_rf z)) (((hM.eq hst.1).2.1 25 (by decide)).1)) dX7_collects_59 ?_
    refine lv_iload_n hx hb dX7_collects_62 rfl (lv_at hl 1 rfl) ?_
    refine ziald hx hb hK hP (hM.2.1 25 (by decide)).2.1 (show G.2.2 (ad 25) = 8 from (hM.2.1 25 (by decide)).2.2) (vp_in_nI (n := n8) (N := 8) (by omega) (by omega)) dX7_collects_63 ?_
    refine lv_topi (fun v13 ev13 => ?_)
    rw [(nI_clamp (n := n8) (by omega))] at ev13
    refine lv_bipush (v := 10) hx hb dX7_collects_64 (by decide) ?_
    refine lv_icmp_ge (tgt := 71) hx hb dX7_collects_66 (by decide) (fun c14 => ?_) (fun c14 => ?_)
    · skip
      refine lv_aload_n hx hb dX7_collects_71 rfl (lv_at hl 0 rfl) ?_
      refine zget (ci := 7) (C := RX7) (T := TX7) (N := 42) hx hb hts hi7 hown hK hP hM.1 rfl rfl 25 (by decide) (hts (.fieldLink RX7 80 "LinClusterModel" "bitsSoFar" "[I") (by decide +kernel)) (fun _ h9 => h9) (v := .ref (ad 25)) (congrArg (fun z => some (va_rf z)) (((hM.eq hst.1).2.1 25 (by decide)).1)) dX7_collects_72 ?_
      refine lv_iload_n hx hb dX7_collects_75 rfl (lv_at hl 1 rfl) ?_
      refine lv_iconst (v := 0) hx hb dX7_collects_76 (by decide) ?_
      refine ziast (x := 0) hx hb hK hP hD hS (hM.2.1 25 (by decide)).2.1 (show G.2.2 (ad 25) = 8 from (hM.2.1 25 (by decide)).2.2) (vp_in_nI (n := n8) (N := 8) (by omega) (by omega)) dX7_collects_77 (fun H locs hP hD hS => ?_)
      rw [(nI_clamp (n := n8) (by omega))] at hP hD
      have hst := zC.pa hM hst (k := 25) (by decide) (by decide) n8 0
      have kn15 := zpi_o hM (zpi (zpi S (ad 26) n8 v7) (ad 25) n8 v10) (i := 26) (k := 25) (by decide) (by decide) (by decide) n8 0 kn11
      have kn16 := zpi_s (zpi (zpi S (ad 26) n8 v7) (ad 25) n8 v10) (ad 25) n8 0
      refine lv_iconst (v := 1) hx hb dX7_collects_78 (by decide) ?_
      exact W.zret (v := 1) (ty := .boolean) hx hb hr rfl (fun t ht hW => ⟨⟨1, (zpi (zpi (zpi S (ad 26) n8 v7) (ad 25) n8 v10) (ad 25) n8 0), rfl, hst, by rw [ht]; exact hP, va_K.moved hW.alike hK, hD⟩, hS.F ht⟩) hS.2.2 dX7_collects_79
    · skip
      refine lv_iconst (v := 0) hx hb dX7_collects_69 (by decide) ?_
      exact W.zret (v := 0) (ty := .boolean) hx hb hr rfl (fun t ht hW => ⟨⟨0, (zpi (zpi S (ad 26) n8 v7) (ad 25) n8 v10), rfl, hst, by rw [ht]; exact hP, va_K.moved hW.alike hK, hD⟩, hS.F ht⟩) hS.2.2 dX7_collects_70
  · skip
    refine lv_iload_n hx hb dX7_collects_9 rfl (lv_at hl 2 rfl) ?_
    refine lv_if_ne (tgt := 27) hx hb dX7_collects_10 (by decide) (fun c17 => ?_) (fun c17 => ?_)
    · skip
      refine lv_iconst (v := 0) hx hb dX7_collects_27 (by decide) ?_
      exact W.zret (v := 0) (ty := .boolean) hx hb hr rfl (fun t ht hW => ⟨⟨0, S, rfl, hst, by rw [ht]; exact hP, va_K.moved hW.alike hK, hD⟩, hS.F ht⟩) hS.2.2 dX7_collects_28
    · skip
      refine lv_aload_n hx hb dX7_collects_13 rfl (lv_at hl 0 rfl) ?_
      refine zget (ci := 7) (C := RX7) (T := TX7) (N := 42) hx hb hts hi7 hown hK hP hM.1 rfl rfl 25 (by decide) (hts (.fieldLink RX7 80 "LinClusterModel" "bitsSoFar" "[I") (by decide +kernel)) (fun _ h9 => h9) (v := .ref (ad 25)) (congrArg (fun z => some (va_rf z)) (((hM.eq hst.1).2.1 25 (by decide)).1)) dX7_collects_14 ?_
      refine lv_iload_n hx hb dX7_collects_17 rfl (lv_at hl 1 rfl) ?_
      refine lv_iconst (v := 1) hx hb dX7_collects_18 (by decide) ?_
      refine ziast (x := 1) hx hb hK hP hD hS (hM.2.1 25 (by decide)).2.1 (show G.2.2 (ad 25) = 8 from (hM.2.1 25 (by decide)).2.2) (vp_in_nI (n := n8) (N := 8) (by omega) (by omega)) dX7_collects_19 (fun H locs hP hD hS => ?_)
      rw [(nI_clamp (n := n8) (by omega))] at hP hD
      have hst := zC.pa hM hst (k := 25) (by decide) (by decide) n8 1
      have kn18 := zpi_s S (ad 25) n8 1
      refine lv_aload_n hx hb dX7_collects_20 rfl (lv_at hl 0 rfl) ?_
      refine zget (ci := 7) (C := RX7) (T := TX7) (N := 42) hx hb hts hi7 hown hK hP hM.1 rfl rfl 26 (by decide) (hts (.fieldLink RX7 83 "LinClusterModel" "values" "[I") (by decide +kernel)) (fun _ h9 => h9) (v := .ref (ad 26)) (congrArg (fun z => some (va_rf z)) (((hM.eq hst.1).2.1 26 (by decide)).1)) dX7_collects_21 ?_
      refine lv_iload_n hx hb dX7_collects_24 rfl (lv_at hl 1 rfl) ?_
      refine lv_iconst (v := 0) hx hb dX7_collects_25 (by decide) ?_
      refine ziast (x := 0) hx hb hK hP hD hS (hM.2.1 26 (by decide)).2.1 (show G.2.2 (ad 26) = 8 from (hM.2.1 26 (by decide)).2.2) (vp_in_nI (n := n8) (N := 8) (by omega) (by omega)) dX7_collects_26 (fun H locs hP hD hS => ?_)
      rw [(nI_clamp (n := n8) (by omega))] at hP hD
      have hst := zC.pa hM hst (k := 26) (by decide) (by decide) n8 0
      have kn19 := zpi_o hM (zpi S (ad 25) n8 1) (i := 25) (k := 26) (by decide) (by decide) (by decide) n8 0 kn18
      have kn20 := zpi_s (zpi S (ad 25) n8 1) (ad 26) n8 0
      refine lv_iconst (v := 0) hx hb dX7_collects_27 (by decide) ?_
      exact W.zret (v := 0) (ty := .boolean) hx hb hr rfl (fun t ht hW => ⟨⟨0, (zpi (zpi S (ad 25) n8 1) (ad 26) n8 0), rfl, hst, by rw [ht]; exact hP, va_K.moved hW.alike hK, hD⟩, hS.F ht⟩) hS.2.2 dX7_collects_28
set_option maxHeartbeats 4000000 in
set_option maxRecDepth 100000 in
theorem c_X7_sleep (l : Launch) (dC : Nat → ClassId) (dI : Nat → Nat → Nat) (cy : Nat → ClassId) (G : zG) (S : zS) (sz : Nat) (mo : Nat) (ad : Nat → Nat) (n8 : Nat) (hM : zM G S mo ad) (hI : zI mo ad S) (hn8 : n8 < 8) : Met l yX7_sleep wsX7_sleep ({ frames := 0, cells := 0, slots := 0, locals := 0 }) (zP dC dI cy [.ref mo, .int (nI n8)] G S sz) (va_Qv (fun S' => (zC mo ad [16] [34] S S') ∧ zI mo ad S') (zB dC dI cy (zA cy G S sz) G) (zA cy G S sz)) 0 0 (zA cy G S sz) := by
  refine Met.ofW (cc := cX7_sleep) (maxL := 2) (ret := none) (by decide) rfl ?_
  intro p e s m args below meth c s₁ B hml hv
  obtain ⟨rfl, hsz, hP, hK, hD0, hN⟩ := hv
  have hx := B.exec
  have hb := B.bytes
  have hr := B.returns
  have hts := atoms_spec (ws := wsX7_sleep) B.pre
  have hown : s.vm.findClass RX7 = some m.cls := findClass_of_methodNamed B.named
  have hlocks := B.notSynchronized
  subst hsz
  have hD : va_D (zA cy G S s.heap.size) (zW cy G S) := hD0.self
  generalize hAe : zA cy G S s.heap.size = A at hD ⊢
  have hA : ∀ q : Nat, s.heap.size ≤ q → A q := fun q h => by rw [← hAe]; exact Or.inr h
  have hS : va_S A s.heap s.heap [] := va_S.rf
  have hst := zC.refl mo ad [16] [34] S
  have hl := lv_entry ([.ref mo, .int (nI n8)]) (n := 2) (Nat.le_of_ble_eq_true rfl)
  rw [lg_entry_eq]
  generalize (lg_sl ([.ref mo, .int (nI n8)]) ++ List.replicate (2 - (lg_sl ([.ref mo, .int (nI n8)])).length) Slot.unset).toArray = ls at hl ⊢
  have hl : lv_has ls 2 [(0, .ref mo), (1, .int (nI n8))] := hl
  have hi7 : ∀ w ∈ wsX70, w ∈ wsX7_sleep := by decide +kernel
  refine lv_aload_n hx hb dX7_sleep_0 rfl (lv_at hl 0 rfl) ?_
  refine zget (ci := 7) (C := RX7) (T := TX7) (N := 42) hx hb hts hi7 hown hK hP hM.1 rfl rfl 16 (by decide) (hts (.fieldLink RX7 53 "LinClusterModel" "at" "[I") (by decide +kernel)) (fun _ h9 => h9) (v := .ref (ad 16)) (congrArg (fun z => some (va_rf z)) (((hM.eq hst.1).2.1 16 (by decide)).1)) dX7_sleep_1 ?_
  refine lv_iload_n hx hb dX7_sleep_4 rfl (lv_at hl 1 rfl) ?_
  refine lv_iconst (v := 0) hx hb dX7_sleep_5 (by decide) ?_
  refine ziast (x := 0) hx hb hK hP hD hS (hM.2.1 16 (by decide)).2.1 (show G.2.2 (ad 16) = 8 from (hM.2.1 16 (by decide)).2.2) (vp_in_nI (n := n8) (N := 8) (by omega) (by omega)) dX7_sleep_6 (fun H locs hP hD hS => ?_)
  rw [(nI_clamp (n := n8) (by omega))] at hP hD
  have hst := zC.pa hM hst (k := 16) (by decide) (by decide) n8 0
  have hI := hI.at hM hn8 (v := 0) (by decide) (by decide)
  have kn1 := zpi_s S (ad 16) n8 0
  refine lv_aload_n hx hb dX7_sleep_7 rfl (lv_at hl 0 rfl) ?_
  refine lv_iload_n hx hb dX7_sleep_8 rfl (lv_at hl 1 rfl) ?_
  refine lv_if_ne (tgt := 16) hx hb dX7_sleep_9 (by decide) (fun c2 => ?_) (fun c2 => ?_)
  · skip
    refine lv_aload_n hx hb dX7_sleep_16 rfl (lv_at hl 0 rfl) ?_
    refine zget (ci := 7) (C := RX7) (T := TX7) (N := 42) hx hb hts hi7 hown hK hP hM.1 rfl rfl 34 (by decide) (hts (.fieldLink RX7 104 "LinClusterModel" "slot" "I") (by decide +kernel)) (fun _ h9 => h9) rfl dX7_sleep_17 ?_
    refine lv_topi (fun v3 ev3 => ?_)
    refine zputi (ci := 7) (v := v3) (ty := .int) (C := RX7) (T := TX7) (N := 42) hx hb hts hi7 tyX7 tyX7_ok nmX7 hown hK hP hD hS hM.1 rfl rfl 34 (by decide) (hts (.fieldLink RX7 104 "LinClusterModel" "slot" "I") (by decide +kernel)) (fun _ h9 => h9) rfl (by decide +kernel) rfl rfl (Nat.le_of_ble_eq_true rfl) rfl dX7_sleep_20 (fun H locs hP hD hS => ?_)
    have hst := zC.pf hM hst (k := 34) (by decide) v3
    have kn4 := zpi_f hM (zpi S (ad 16) n8 0) (i := 16) (by decide) 34 v3 kn1
    have hI := hI.slot hM (v := v3) (by rw [ev3]; exact hI.2.2.2.1)
    have kn5 := zpi_s (zpi S (ad 16) n8 0) mo 34 v3
    exact W.vret hx hb hr (fun t ht hW => ⟨⟨(zpi (zpi S (ad 16) n8 0) mo 34 v3), rfl, ⟨hst, hI⟩, by rw [ht]; exact hP, va_K.moved hW.alike hK, hD⟩, hS.F ht⟩) hS.2.2 dX7_sleep_23
  · skip
    refine lv_iconst (v := (-1)) hx hb dX7_sleep_12 (by decide) ?_
    refine lv_goto (tgt := 20) hx hb dX7_sleep_13 (by decide) ?_
    refine zputi (ci := 7) (v := (-1)) (ty := .int) (C := RX7) (T := TX7) (N := 42) hx hb hts hi7 tyX7 tyX7_ok nmX7 hown hK hP hD hS hM.1 rfl rfl 34 (by decide) (hts (.fieldLink RX7 104 "LinClusterModel" "slot" "I") (by decide +kernel)) (fun _ h9 => h9) rfl (by decide +kernel) rfl rfl (Nat.le_of_ble_eq_true rfl) rfl dX7_sleep_20 (fun H locs hP hD hS => ?_)
    have hst := zC.pf hM hst (k := 34) (by decide) (-1)
    have kn6 := zpi_f hM (zpi S (ad 16) n8 0) (i := 16) (by decide) 34 (-1) kn1
    have hI := hI.slot hM (v := (-1)) (Or.inl rfl)
    have kn7 := zpi_s (zpi S (ad 16) n8 0) mo 34 (-1)
    exact W.vret hx hb hr (fun t ht hW => ⟨⟨(zpi (zpi S (ad 16) n8 0) mo 34 (-1)), rfl, ⟨hst, hI⟩, by rw [ht]; exact hP, va_K.moved hW.alike hK, hD⟩, hS.F ht⟩) hS.2.2 dX7_sleep_23
set_option maxHeartbeats 4000000 in
set_option maxRecDepth 100000 in
theorem c_X7_rests (l : Launch) (dC : Nat → ClassId) (dI : Nat → Nat → Nat) (cy : Nat → ClassId) (G : zG) (S : zS) (sz : Nat) (mo : Nat) (ad : Nat → Nat) (n8 : Nat) (v : Int32) (hM : zM G S mo ad) (hI : zI mo ad S) (hn8 : n8 < 8) : Met l yX7_rests wsX7_rests ({ frames := 1, cells := 0, slots := 0, locals := 21 }) (zP dC dI cy [.ref mo, .int (nI n8), .int v] G S sz) (va_Qv (fun S' => (zC mo ad [16] [34] S S') ∧ zI mo ad S') (zB dC dI cy (zA cy G S sz) G) (zA cy G S sz)) 0 0 (zA cy G S sz) := by
  refine Met.ofW (cc := cX7_rests) (maxL := 3) (ret := none) (by decide) rfl ?_
  intro p e s m args below meth c s₁ B hml hv
  obtain ⟨rfl, hsz, hP, hK, hD0, hN⟩ := hv
  have hx := B.exec
  have hb := B.bytes
  have hr := B.returns
  have hts := atoms_spec (ws := wsX7_rests) B.pre
  have hown : s.vm.findClass RX7 = some m.cls := findClass_of_methodNamed B.named
  have hlocks := B.notSynchronized
  subst hsz
  have hD : va_D (zA cy G S s.heap.size) (zW cy G S) := hD0.self
  generalize hAe : zA cy G S s.heap.size = A at hD ⊢
  have hA : ∀ q : Nat, s.heap.size ≤ q → A q := fun q h => by rw [← hAe]; exact Or.inr h
  have hS : va_S A s.heap s.heap [] := va_S.rf
  have hst := zC.refl mo ad [16] [34] S
  have hl := lv_entry ([.ref mo, .int (nI n8), .int v]) (n := 3) (Nat.le_of_ble_eq_true rfl)
  rw [lg_entry_eq]
  generalize (lg_sl ([.ref mo, .int (nI n8), .int v]) ++ List.replicate (3 - (lg_sl ([.ref mo, .int (nI n8), .int v])).length) Slot.unset).toArray = ls at hl ⊢
  have hl : lv_has ls 3 [(0, .ref mo), (1, .int (nI n8)), (2, .int v)] := hl
  have hi7 : ∀ w ∈ wsX70, w ∈ wsX7_rests := by decide +kernel
  refine lv_iload_n hx hb dX7_rests_0 rfl (lv_at hl 2 rfl) ?_
  refine lv_bipush (v := 60) hx hb dX7_rests_1 (by decide) ?_
  refine lv_icmp_ne (tgt := 23) hx hb dX7_rests_3 (by decide) (fun c1 => ?_) (fun c1 => ?_)
  · skip
    exact W.vret hx hb hr (fun t ht hW => ⟨⟨S, rfl, ⟨hst, hI⟩, by rw [ht]; exact hP, va_K.moved hW.alike hK, hD⟩, hS.F ht⟩) hS.2.2 dX7_rests_23
  · skip
    refine lv_aload_n hx hb dX7_rests_6 rfl (lv_at hl 0 rfl) ?_
    refine zget (ci := 7) (C := RX7) (T := TX7) (N := 42) hx hb hts hi7 hown hK hP hM.1 rfl rfl 29 (by decide) (hts (.fieldLink RX7 92 "LinClusterModel" "row" "[I") (by decide +kernel)) (fun _ h9 => h9) (v := .ref (ad 29)) (congrArg (fun z => some (va_rf z)) (((hM.eq hst.1).2.1 29 (by decide)).1)) dX7_rests_7 ?_
    refine lv_bipush (v := 16) hx hb dX7_rests_10 (by decide) ?_
    refine lv_iload_n hx hb dX7_rests_12 rfl (lv_at hl 1 rfl) ?_
    refine lv_imul hx hb dX7_rests_13 ?_
    refine lv_topi (fun v2 ev2 => ?_)
    obtain rfl : v2 = nI (16 * n8) := ev2.trans (pk_mul 16 n8)
    refine ziald hx hb hK hP (hM.2.1 29 (by decide)).2.1 (show G.2.2 (ad 29) = 128 from (hM.2.1 29 (by decide)).2.2) (vp_in_nI (n := (16 * n8)) (N := 128) (by omega) (by omega)) dX7_rests_14 ?_
    refine lv_topi (fun v3 ev3 => ?_)
    rw [(nI_clamp (n := (16 * n8)) (by omega))] at ev3
    refine lv_if_ne (tgt := 23) hx hb dX7_rests_15 (by decide) (fun c4 => ?_) (fun c4 => ?_)
    · skip
      exact W.vret hx hb hr (fun t ht hW => ⟨⟨S, rfl, ⟨hst, hI⟩, by rw [ht]; exact hP, va_K.moved hW.alike hK, hD⟩, hS.F ht⟩) hS.2.2 dX7_rests_23
    · skip
      refine lv_aload_n hx hb dX7_rests_18 rfl (lv_at hl 0 rfl) ?_
      refine lv_iload_n hx hb dX7_rests_19 rfl (lv_at hl 1 rfl) ?_
      refine zcallv (va_runV (As := [.int (nI n8)]) (rest := []) ⟨hx, hb, hml, hown, hts⟩ (c_X7_sleep l dC dI cy G S s.heap.size mo ad n8 (hM.eq hst.1) hI (by omega)) (cwV 1 hts gX7_rests_X7_sleep rfl rfl rfl (by decide +kernel) ⟨Nat.le_of_ble_eq_true rfl, Nat.le_of_ble_eq_true rfl⟩) (zpreV hK hP hD hN (zrecv7 hK hP hM.1)) rfl rfl hl.1 rfl (lv_room (Nat.le_of_ble_eq_true rfl)) dX7_rests_20 ⟨Nat.le_of_ble_eq_true rfl, Nat.le_of_ble_eq_true rfl⟩) hS hD hA (fun S6 H locs hr5 hP hD hS => ?_)
      have hst := hst.trans (hr5.1.mono (by decide) (by decide))
      have hI := hr5.2
      exact W.vret hx hb hr (fun t ht hW => ⟨⟨S6, rfl, ⟨hst, hI⟩, by rw [ht]; exact hP, va_K.moved hW.alike hK, hD⟩, hS.F ht⟩) hS.2.2 dX7_rests_23
