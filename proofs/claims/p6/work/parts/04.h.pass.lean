set_option maxHeartbeats 4000000 in
set_option maxRecDepth 100000 in
theorem c_X6_passBitTime (l : Launch) (dC : Nat → ClassId) (dI : Nat → Nat → Nat) (cy : Nat → ClassId) (G : zG) (S : zS) (sz : Nat) (x f n sc ia na d ka va : Nat) (hX : zX G S x f n sc ia na d ka va) : Met l yX6_passBitTime wsX6_passBitTime ({ frames := 5, cells := 0, slots := 0, locals := 118 }) (zP dC dI cy [.ref x] G S sz) (va_Qv (fun S' => ∃ T, zSt G S T ∧ S' = zpi T x 4 (S.1 x 4 + 1)) (zB dC dI cy (zA cy G S sz) G) (zA cy G S sz)) 0 0 (zA cy G S sz) := by
  refine Met.ofW (cc := cX6_passBitTime) (maxL := 4) (ret := none) (by decide) rfl ?_
  intro p e s m args below meth c s₁ B hml hv
  obtain ⟨rfl, hsz, hP, hK, hD0, hN⟩ := hv
  have hx := B.exec
  have hb := B.bytes
  have hr := B.returns
  have hts := atoms_spec (ws := wsX6_passBitTime) B.pre
  have hown : s.vm.findClass RX6 = some m.cls := findClass_of_methodNamed B.named
  have hlocks := B.notSynchronized
  subst hsz
  have hD : va_D (zA cy G S s.heap.size) (zW cy G S) := hD0.self
  generalize hAe : zA cy G S s.heap.size = A at hD ⊢
  have hA : ∀ q : Nat, s.heap.size ≤ q → A q := fun q h => by rw [← hAe]; exact Or.inr h
  have hS : va_S A s.heap s.heap [] := va_S.rf
  have hst := zSt.refl G S
  have hl := lv_entry ([.ref x]) (n := 4) (Nat.le_of_ble_eq_true rfl)
  rw [lg_entry_eq]
  generalize (lg_sl ([.ref x]) ++ List.replicate (4 - (lg_sl ([.ref x])).length) Slot.unset).toArray = ls at hl ⊢
  have hl : lv_has ls 4 [(0, .ref x)] := hl
  have hi6 : ∀ w ∈ wsX60, w ∈ wsX6_passBitTime := by decide +kernel
  obtain ⟨hx6, hq0, hq1, hq2, hq3, hFa, hNs, hSc, hDi, hRf⟩ := hX
  refine lv_aload_n hx hb dX6_passBitTime_0 rfl (lv_at hl 0 rfl) ?_
  refine zget (ci := 6) (C := RX6) (T := TX6) (N := 7) hx hb hts hi6 hown hK hP hx6 rfl rfl 2 (by decide) (hts (.fieldLink RX6 24 "LinCluster" "schedule" "LLinCluster$Schedule;") (by decide +kernel)) (fun _ h9 => h9) (v := .ref sc) (congrArg (fun z => some (va_rf z)) (hst.q hx6.2 rfl hq2)) dX6_passBitTime_1 ?_
  refine zcalli (va_runV (As := []) (rest := []) ⟨hx, hb, hml, hown, hts⟩ (c_X5_nextBit l dC dI cy G S s.heap.size sc ia na  (hst.sc hSc)) (cwV 0 hts gX6_passBitTime_X5_nextBit rfl rfl rfl (by decide +kernel) ⟨Nat.le_of_ble_eq_true rfl, Nat.le_of_ble_eq_true rfl⟩) (zpreV hK hP hD hN (zrecv5 hK hP hSc.1)) rfl rfl hl.1 rfl (lv_room (Nat.le_of_ble_eq_true rfl)) dX6_passBitTime_4 ⟨Nat.le_of_ble_eq_true rfl, Nat.le_of_ble_eq_true rfl⟩) hS hD hA (fun r1 S2 H locs hr1 hP hD hS => ?_)
  have hst := hst.trans hr1
  refine lv_istore_n (lv' := [(1, .int r1), (0, .ref x)]) hx hb dX6_passBitTime_7 rfl hl (by decide) rfl (fun ls hl => ?_)
  refine lv_iconst (v := 0) hx hb dX6_passBitTime_8 (by decide) ?_
  refine lv_istore_n (lv' := [(2, .int 0), (1, .int r1), (0, .ref x)]) hx hb dX6_passBitTime_9 rfl hl (by decide) rfl (fun ls hl => ?_)
  refine zloopR 8 (fun k9 (x9 : Int32) => [(0, .ref x), (1, .int x9), (2, .int (nI k9))]) ?_ ?_ 8 0 r1 ls rfl (lv_sub hl [2, 1, 0] rfl)
  · intro x9 ls hl
    have hl : lv_has ls 4 [(0, .ref x), (1, .int x9), (2, .int (nI 8))] := hl
    refine lv_iload_n hx hb dX6_passBitTime_10 rfl (lv_at hl 2 rfl) ?_
    refine lv_aload_n hx hb dX6_passBitTime_11 rfl (lv_at hl 0 rfl) ?_
    refine zget (ci := 6) (C := RX6) (T := TX6) (N := 7) hx hb hts hi6 hown hK hP hx6 rfl rfl 1 (by decide) (hts (.fieldLink RX6 17 "LinCluster" "nodes" "[LLinCluster$Node;") (by decide +kernel)) (fun _ h9 => h9) (v := .ref n) (congrArg (fun z => some (va_rf z)) (hst.q hx6.2 rfl hq1)) dX6_passBitTime_12 ?_
    refine znalen (v := 8) hx hb hK hP hNs.1 hNs.2.1 (by decide) dX6_passBitTime_15 ?_
    refine lv_icmp_ge (tgt := 39) hx hb dX6_passBitTime_16 (by decide) (fun c3 => ?_) (fun c3 => ?_)
    · skip
      refine lv_aload_n hx hb dX6_passBitTime_39 rfl (lv_at hl 0 rfl) ?_
      refine zget (ci := 6) (C := RX6) (T := TX6) (N := 7) hx hb hts hi6 hown hK hP hx6 rfl rfl 3 (by decide) (hts (.fieldLink RX6 31 "LinCluster" "disturbings" "LLinCluster$Disturbings;") (by decide +kernel)) (fun _ h9 => h9) (v := .ref d) (congrArg (fun z => some (va_rf z)) (hst.q hx6.2 rfl hq3)) dX6_passBitTime_40 ?_
      refine lv_aload_n hx hb dX6_passBitTime_43 rfl (lv_at hl 0 rfl) ?_
      refine zget (ci := 6) (C := RX6) (T := TX6) (N := 7) hx hb hts hi6 hown hK hP hx6 rfl rfl 4 (by decide) (hts (.fieldLink RX6 35 "LinCluster" "time" "I") (by decide +kernel)) (fun _ h9 => h9) rfl dX6_passBitTime_44 ?_
      refine lv_topi (fun v4 ev4 => ?_)
      refine lv_iload_n hx hb dX6_passBitTime_47 rfl (lv_at hl 1 rfl) ?_
      refine zcalli (va_runV (As := [.int v4, .int x9]) (rest := []) ⟨hx, hb, hml, hown, hts⟩ (c_X0_pass l dC dI cy G S2 H.size d ka va v4 x9 (hst.di hDi)) (cwV 2 hts gX6_passBitTime_X0_pass rfl rfl rfl (by decide +kernel) ⟨Nat.le_of_ble_eq_true rfl, Nat.le_of_ble_eq_true rfl⟩) (zpreV hK hP hD hN (zrecv0 hK hP hDi.1)) rfl rfl hl.1 rfl (lv_room (Nat.le_of_ble_eq_true rfl)) dX6_passBitTime_48 ⟨Nat.le_of_ble_eq_true rfl, Nat.le_of_ble_eq_true rfl⟩) hS hD hA (fun r5 S6 H locs hr5 hP hD hS => ?_)
      have hst := hst.trans hr5
      refine lv_istore_n (lv' := [(1, .int r5), (0, .ref x), (2, .int (nI 8))]) hx hb dX6_passBitTime_51 rfl hl (by decide) rfl (fun ls hl => ?_)
      refine lv_aload_n hx hb dX6_passBitTime_52 rfl (lv_at hl 1 rfl) ?_
      refine zget (ci := 6) (C := RX6) (T := TX6) (N := 7) hx hb hts hi6 hown hK hP hx6 rfl rfl 1 (by decide) (hts (.fieldLink RX6 17 "LinCluster" "nodes" "[LLinCluster$Node;") (by decide +kernel)) (fun _ h9 => h9) (v := .ref n) (congrArg (fun z => some (va_rf z)) (hst.q hx6.2 rfl hq1)) dX6_passBitTime_53 ?_
      refine lv_iconst (v := 0) hx hb dX6_passBitTime_56 (by decide) ?_
      refine znald hx hb hK hP hNs.1 hNs.2.1 (by unfold vp_in; decide) dX6_passBitTime_57 ?_
      obtain ⟨nd7, i8, r9, hq10, hNd11⟩ := hNs.2.2 0 (by omega)
      rw [sb_cl0, hst.q hNs.1.2 rfl hq10]
      refine W.eq (g2 := F0 m 58 ls [.ref nd7]) rfl ?_
      refine vp_callSi (va_Run.run (va_runV (As := []) (rest := []) ⟨hx, hb, hml, hown, hts⟩ (c_X3_isAwake l dC dI cy G S6 H.size nd7  hNd11.1) (cwV 0 hts gX6_passBitTime_X3_isAwake rfl rfl rfl (by decide +kernel) ⟨Nat.le_of_ble_eq_true rfl, Nat.le_of_ble_eq_true rfl⟩) (zpreV hK hP hD hN (zrecv3 hK hP hNd11.1)) rfl rfl hl.1 rfl (lv_room (Nat.le_of_ble_eq_true rfl)) dX6_passBitTime_58 ⟨Nat.le_of_ble_eq_true rfl, Nat.le_of_ble_eq_true rfl⟩)) (fun r12 hr12 => ?_)
      refine lv_istore_n (lv' := [(2, .int r12), (1, .int r5), (0, .ref x)]) hx hb dX6_passBitTime_61 rfl hl (by decide) rfl (fun ls hl => ?_)
      refine lv_iconst (v := 0) hx hb dX6_passBitTime_62 (by decide) ?_
      refine lv_istore_n (lv' := [(3, .int 0), (2, .int r12), (1, .int r5), (0, .ref x)]) hx hb dX6_passBitTime_63 rfl hl (by decide) rfl (fun ls hl => ?_)
      refine zloopW 8 (fun k9 (_ : Unit) => [(0, .ref x), (1, .int r5), (2, .int r12), (3, .int (nI k9))]) (fun _ S' => zSt G S S') ?_ ?_ 8 0 () S6 H locs ls rfl hst hP hD hS (lv_sub hl [3, 2, 1, 0] rfl)
      · intro x9 S9 H locs ls hst hP hD hS hl
        have hl : lv_has ls 4 [(0, .ref x), (1, .int r5), (2, .int r12), (3, .int (nI 8))] := hl
        refine lv_iload_n hx hb dX6_passBitTime_64 rfl (lv_at hl 3 rfl) ?_
        refine lv_aload_n hx hb dX6_passBitTime_65 rfl (lv_at hl 0 rfl) ?_
        refine zget (ci := 6) (C := RX6) (T := TX6) (N := 7) hx hb hts hi6 hown hK hP hx6 rfl rfl 1 (by decide) (hts (.fieldLink RX6 17 "LinCluster" "nodes" "[LLinCluster$Node;") (by decide +kernel)) (fun _ h9 => h9) (v := .ref n) (congrArg (fun z => some (va_rf z)) (hst.q hx6.2 rfl hq1)) dX6_passBitTime_66 ?_
        refine znalen (v := 8) hx hb hK hP hNs.1 hNs.2.1 (by decide) dX6_passBitTime_69 ?_
        refine lv_icmp_ge (tgt := 97) hx hb dX6_passBitTime_70 (by decide) (fun c13 => ?_) (fun c13 => ?_)
        · skip
          refine lv_iload_n hx hb dX6_passBitTime_97 rfl (lv_at hl 2 rfl) ?_
          refine lv_aload_n hx hb dX6_passBitTime_98 rfl (lv_at hl 0 rfl) ?_
          refine zget (ci := 6) (C := RX6) (T := TX6) (N := 7) hx hb hts hi6 hown hK hP hx6 rfl rfl 1 (by decide) (hts (.fieldLink RX6 17 "LinCluster" "nodes" "[LLinCluster$Node;") (by decide +kernel)) (fun _ h9 => h9) (v := .ref n) (congrArg (fun z => some (va_rf z)) (hst.q hx6.2 rfl hq1)) dX6_passBitTime_99 ?_
          refine lv_iconst (v := 0) hx hb dX6_passBitTime_102 (by decide) ?_
          refine znald hx hb hK hP hNs.1 hNs.2.1 (by unfold vp_in; decide) dX6_passBitTime_103 ?_
          obtain ⟨nd14, i15, r16, hq17, hNd18⟩ := hNs.2.2 0 (by omega)
          rw [sb_cl0, hst.q hNs.1.2 rfl hq17]
          refine W.eq (g2 := F0 m 104 ls [.ref nd14, .int r12]) rfl ?_
          refine vp_callSi (va_Run.run (va_runV (As := []) (rest := [.int r12]) ⟨hx, hb, hml, hown, hts⟩ (c_X3_isAwake l dC dI cy G S9 H.size nd14  hNd18.1) (cwV 0 hts gX6_passBitTime_X3_isAwake rfl rfl rfl (by decide +kernel) ⟨Nat.le_of_ble_eq_true rfl, Nat.le_of_ble_eq_true rfl⟩) (zpreV hK hP hD hN (zrecv3 hK hP hNd18.1)) rfl rfl hl.1 rfl (lv_room (Nat.le_of_ble_eq_true rfl)) dX6_passBitTime_104 ⟨Nat.le_of_ble_eq_true rfl, Nat.le_of_ble_eq_true rfl⟩)) (fun r19 hr19 => ?_)
          refine lv_icmp_eq (tgt := 126) hx hb dX6_passBitTime_107 (by decide) (fun c20 => ?_) (fun c20 => ?_)
          · skip
            refine lv_aload_n hx hb dX6_passBitTime_126 rfl (lv_at hl 0 rfl) ?_
            refine lv_iload_n hx hb dX6_passBitTime_127 rfl (lv_at hl 1 rfl) ?_
            refine lv_if_ne (tgt := 140) hx hb dX6_passBitTime_128 (by decide) (fun c21 => ?_) (fun c21 => ?_)
            · skip
              refine lv_iconst (v := 0) hx hb dX6_passBitTime_140 (by decide) ?_
              refine zputi (ci := 6) (v := 0) (ty := .int) (C := RX6) (T := TX6) (N := 7) hx hb hts hi6 tyX6 tyX6_ok nmX6 hown hK hP hD hS hx6 rfl rfl 5 (by decide) (hts (.fieldLink RX6 39 "LinCluster" "zeros" "I") (by decide +kernel)) (fun _ h9 => h9) rfl (by decide +kernel) rfl rfl (Nat.le_of_ble_eq_true rfl) rfl dX6_passBitTime_141 (fun H locs hP hD hS => ?_)
              have hst := hst.pi (k := 5) (v := 0) hx6.2 rfl
              refine lv_aload_n hx hb dX6_passBitTime_144 rfl (lv_at hl 0 rfl) ?_
              refine lv_aload_n hx hb dX6_passBitTime_145 rfl (lv_at hl 0 rfl) ?_
              refine zget (ci := 6) (C := RX6) (T := TX6) (N := 7) hx hb hts hi6 hown hK hP hx6 rfl rfl 6 (by decide) (hts (.fieldLink RX6 44 "LinCluster" "past" "J") (by decide +kernel)) (fun _ h9 => h9) rfl dX6_passBitTime_146 ?_
              refine lv_topl (fun v22 ev22 => ?_)
              refine lv_iconst (v := 1) hx hb dX6_passBitTime_149 (by decide) ?_
              refine lv_lshl hx hb dX6_passBitTime_150 rfl ?_
              refine lv_topl (fun v23 ev23 => ?_)
              refine lv_iload_n hx hb dX6_passBitTime_151 rfl (lv_at hl 1 rfl) ?_
              refine lv_i2l hx hb dX6_passBitTime_152 rfl ?_
              refine lv_topl (fun v24 ev24 => ?_)
              refine lv_lor hx hb dX6_passBitTime_153 ?_
              refine lv_topl (fun v25 ev25 => ?_)
              refine zputj (ci := 6) (v := v25) (ty := .long) (C := RX6) (T := TX6) (N := 7) hx hb hts hi6 tyX6 tyX6_ok nmX6 hown hK hP hD hS hx6 rfl rfl 6 (by decide) (hts (.fieldLink RX6 44 "LinCluster" "past" "J") (by decide +kernel)) (fun _ h9 => h9) rfl (by decide +kernel) rfl rfl (Nat.le_of_ble_eq_true rfl) rfl dX6_passBitTime_154 (fun H locs hP hD hS => ?_)
              have hst := hst.pj (k := 6) (v := v25) hx6.2 rfl
              refine lv_aload_n hx hb dX6_passBitTime_157 rfl (lv_at hl 0 rfl) ?_
              refine lv_dup hx hb dX6_passBitTime_158 rfl ?_
              refine zget (ci := 6) (C := RX6) (T := TX6) (N := 7) hx hb hts hi6 hown hK hP hx6 rfl rfl 4 (by decide) (hts (.fieldLink RX6 35 "LinCluster" "time" "I") (by decide +kernel)) (fun _ h9 => h9) rfl dX6_passBitTime_159 ?_
              refine lv_topi (fun v26 ev26 => ?_)
              refine lv_iconst (v := 1) hx hb dX6_passBitTime_162 (by decide) ?_
              refine lv_iadd hx hb dX6_passBitTime_163 ?_
              refine lv_topi (fun v27 ev27 => ?_)
              refine zputi (ci := 6) (v := v27) (ty := .int) (C := RX6) (T := TX6) (N := 7) hx hb hts hi6 tyX6 tyX6_ok nmX6 hown hK hP hD hS hx6 rfl rfl 4 (by decide) (hts (.fieldLink RX6 35 "LinCluster" "time" "I") (by decide +kernel)) (fun _ h9 => h9) rfl (by decide +kernel) rfl rfl (Nat.le_of_ble_eq_true rfl) rfl dX6_passBitTime_164 (fun H locs hP hD hS => ?_)
              exact W.vret hx hb hr (fun t ht hW => ⟨⟨(zpi (zpj (zpi S9 x 5 0) x 6 v25) x 4 v27), rfl, ⟨(zpj (zpi S9 x 5 0) x 6 v25), hst, by rw [ev27, ev26, hst.1 x 4 (by rw [hx6.2]; rfl)]⟩, by rw [ht]; exact hP, va_K.moved hW.alike hK, hD⟩, hS.F ht⟩) hS.2.2 dX6_passBitTime_167
            · skip
              refine lv_aload_n hx hb dX6_passBitTime_131 rfl (lv_at hl 0 rfl) ?_
              refine zget (ci := 6) (C := RX6) (T := TX6) (N := 7) hx hb hts hi6 hown hK hP hx6 rfl rfl 5 (by decide) (hts (.fieldLink RX6 39 "LinCluster" "zeros" "I") (by decide +kernel)) (fun _ h9 => h9) rfl dX6_passBitTime_132 ?_
              refine lv_topi (fun v28 ev28 => ?_)
              refine lv_iconst (v := 1) hx hb dX6_passBitTime_135 (by decide) ?_
              refine lv_iadd hx hb dX6_passBitTime_136 ?_
              refine lv_topi (fun v29 ev29 => ?_)
              refine lv_goto (tgt := 141) hx hb dX6_passBitTime_137 (by decide) ?_
              refine zputi (ci := 6) (v := v29) (ty := .int) (C := RX6) (T := TX6) (N := 7) hx hb hts hi6 tyX6 tyX6_ok nmX6 hown hK hP hD hS hx6 rfl rfl 5 (by decide) (hts (.fieldLink RX6 39 "LinCluster" "zeros" "I") (by decide +kernel)) (fun _ h9 => h9) rfl (by decide +kernel) rfl rfl (Nat.le_of_ble_eq_true rfl) rfl dX6_passBitTime_141 (fun H locs hP hD hS => ?_)
              have hst := hst.pi (k := 5) (v := v29) hx6.2 rfl
              refine lv_aload_n hx hb dX6_passBitTime_144 rfl (lv_at hl 0 rfl) ?_
              refine lv_aload_n hx hb dX6_passBitTime_145 rfl (lv_at hl 0 rfl) ?_
              refine zget (ci := 6) (C := RX6) (T := TX6) (N := 7) hx hb hts hi6 hown hK hP hx6 rfl rfl 6 (by decide) (hts (.fieldLink RX6 44 "LinCluster" "past" "J") (by decide +kernel)) (fun _ h9 => h9) rfl dX6_passBitTime_146 ?_
              refine lv_topl (fun v30 ev30 => ?_)
              refine lv_iconst (v := 1) hx hb dX6_passBitTime_149 (by decide) ?_
              refine lv_lshl hx hb dX6_passBitTime_150 rfl ?_
              refine lv_topl (fun v31 ev31 => ?_)
              refine lv_iload_n hx hb dX6_passBitTime_151 rfl (lv_at hl 1 rfl) ?_
              refine lv_i2l hx hb dX6_passBitTime_152 rfl ?_
              refine lv_topl (fun v32 ev32 => ?_)
              refine lv_lor hx hb dX6_passBitTime_153 ?_
              refine lv_topl (fun v33 ev33 => ?_)
              refine zputj (ci := 6) (v := v33) (ty := .long) (C := RX6) (T := TX6) (N := 7) hx hb hts hi6 tyX6 tyX6_ok nmX6 hown hK hP hD hS hx6 rfl rfl 6 (by decide) (hts (.fieldLink RX6 44 "LinCluster" "past" "J") (by decide +kernel)) (fun _ h9 => h9) rfl (by decide +kernel) rfl rfl (Nat.le_of_ble_eq_true rfl) rfl dX6_passBitTime_154 (fun H locs hP hD hS => ?_)
              have hst := hst.pj (k := 6) (v := v33) hx6.2 rfl
              refine lv_aload_n hx hb dX6_passBitTime_157 rfl (lv_at hl 0 rfl) ?_
              refine lv_dup hx hb dX6_passBitTime_158 rfl ?_
              refine zget (ci := 6) (C := RX6) (T := TX6) (N := 7) hx hb hts hi6 hown hK hP hx6 rfl rfl 4 (by decide) (hts (.fieldLink RX6 35 "LinCluster" "time" "I") (by decide +kernel)) (fun _ h9 => h9) rfl dX6_passBitTime_159 ?_
              refine lv_topi (fun v34 ev34 => ?_)
              refine lv_iconst (v := 1) hx hb dX6_passBitTime_162 (by decide) ?_
              refine lv_iadd hx hb dX6_passBitTime_163 ?_
              refine lv_topi (fun v35 ev35 => ?_)
              refine zputi (ci := 6) (v := v35) (ty := .int) (C := RX6) (T := TX6) (N := 7) hx hb hts hi6 tyX6 tyX6_ok nmX6 hown hK hP hD hS hx6 rfl rfl 4 (by decide) (hts (.fieldLink RX6 35 "LinCluster" "time" "I") (by decide +kernel)) (fun _ h9 => h9) rfl (by decide +kernel) rfl rfl (Nat.le_of_ble_eq_true rfl) rfl dX6_passBitTime_164 (fun H locs hP hD hS => ?_)
              exact W.vret hx hb hr (fun t ht hW => ⟨⟨(zpi (zpj (zpi S9 x 5 v29) x 6 v33) x 4 v35), rfl, ⟨(zpj (zpi S9 x 5 v29) x 6 v33), hst, by rw [ev35, ev34, hst.1 x 4 (by rw [hx6.2]; rfl)]⟩, by rw [ht]; exact hP, va_K.moved hW.alike hK, hD⟩, hS.F ht⟩) hS.2.2 dX6_passBitTime_167
          · skip
            refine lv_aload_n hx hb dX6_passBitTime_110 rfl (lv_at hl 0 rfl) ?_
            refine zget (ci := 6) (C := RX6) (T := TX6) (N := 7) hx hb hts hi6 hown hK hP hx6 rfl rfl 2 (by decide) (hts (.fieldLink RX6 24 "LinCluster" "schedule" "LLinCluster$Schedule;") (by decide +kernel)) (fun _ h9 => h9) (v := .ref sc) (congrArg (fun z => some (va_rf z)) (hst.q hx6.2 rfl hq2)) dX6_passBitTime_111 ?_
            refine lv_iload_n hx hb dX6_passBitTime_114 rfl (lv_at hl 2 rfl) ?_
            refine lv_if_ne (tgt := 122) hx hb dX6_passBitTime_115 (by decide) (fun c36 => ?_) (fun c36 => ?_)
            · skip
              refine lv_iconst (v := 0) hx hb dX6_passBitTime_122 (by decide) ?_
              refine zcallv (va_runV (As := [.int 0]) (rest := []) ⟨hx, hb, hml, hown, hts⟩ (c_X5_followMaster l dC dI cy G S9 H.size sc ia na 0 (hst.sc hSc)) (cwV 1 hts gX6_passBitTime_X5_followMaster rfl rfl rfl (by decide +kernel) ⟨Nat.le_of_ble_eq_true rfl, Nat.le_of_ble_eq_true rfl⟩) (zpreV hK hP hD hN (zrecv5 hK hP hSc.1)) rfl rfl hl.1 rfl (lv_room (Nat.le_of_ble_eq_true rfl)) dX6_passBitTime_123 ⟨Nat.le_of_ble_eq_true rfl, Nat.le_of_ble_eq_true rfl⟩) hS hD hA (fun S38 H locs hr37 hP hD hS => ?_)
              have hst := hst.trans hr37
              refine lv_aload_n hx hb dX6_passBitTime_126 rfl (lv_at hl 0 rfl) ?_
              refine lv_iload_n hx hb dX6_passBitTime_127 rfl (lv_at hl 1 rfl) ?_
              refine lv_if_ne (tgt := 140) hx hb dX6_passBitTime_128 (by decide) (fun c39 => ?_) (fun c39 => ?_)
              · skip
                refine lv_iconst (v := 0) hx hb dX6_passBitTime_140 (by decide) ?_
                refine zputi (ci := 6) (v := 0) (ty := .int) (C := RX6) (T := TX6) (N := 7) hx hb hts hi6 tyX6 tyX6_ok nmX6 hown hK hP hD hS hx6 rfl rfl 5 (by decide) (hts (.fieldLink RX6 39 "LinCluster" "zeros" "I") (by decide +kernel)) (fun _ h9 => h9) rfl (by decide +kernel) rfl rfl (Nat.le_of_ble_eq_true rfl) rfl dX6_passBitTime_141 (fun H locs hP hD hS => ?_)
                have hst := hst.pi (k := 5) (v := 0) hx6.2 rfl
                refine lv_aload_n hx hb dX6_passBitTime_144 rfl (lv_at hl 0 rfl) ?_
                refine lv_aload_n hx hb dX6_passBitTime_145 rfl (lv_at hl 0 rfl) ?_
                refine zget (ci := 6) (C := RX6) (T := TX6) (N := 7) hx hb hts hi6 hown hK hP hx6 rfl rfl 6 (by decide) (hts (.fieldLink RX6 44 "LinCluster" "past" "J") (by decide +kernel)) (fun _ h9 => h9) rfl dX6_passBitTime_146 ?_
                refine lv_topl (fun v40 ev40 => ?_)
                refine lv_iconst (v := 1) hx hb dX6_passBitTime_149 (by decide) ?_
                refine lv_lshl hx hb dX6_passBitTime_150 rfl ?_
                refine lv_topl (fun v41 ev41 => ?_)
                refine lv_iload_n hx hb dX6_passBitTime_151 rfl (lv_at hl 1 rfl) ?_
                refine lv_i2l hx hb dX6_passBitTime_152 rfl ?_
                refine lv_topl (fun v42 ev42 => ?_)
                refine lv_lor hx hb dX6_passBitTime_153 ?_
                refine lv_topl (fun v43 ev43 => ?_)
                refine zputj (ci := 6) (v := v43) (ty := .long) (C := RX6) (T := TX6) (N := 7) hx hb hts hi6 tyX6 tyX6_ok nmX6 hown hK hP hD hS hx6 rfl rfl 6 (by decide) (hts (.fieldLink RX6 44 "LinCluster" "past" "J") (by decide +kernel)) (fun _ h9 => h9) rfl (by decide +kernel) rfl rfl (Nat.le_of_ble_eq_true rfl) rfl dX6_passBitTime_154 (fun H locs hP hD hS => ?_)
                have hst := hst.pj (k := 6) (v := v43) hx6.2 rfl
                refine lv_aload_n hx hb dX6_passBitTime_157 rfl (lv_at hl 0 rfl) ?_
                refine lv_dup hx hb dX6_passBitTime_158 rfl ?_
                refine zget (ci := 6) (C := RX6) (T := TX6) (N := 7) hx hb hts hi6 hown hK hP hx6 rfl rfl 4 (by decide) (hts (.fieldLink RX6 35 "LinCluster" "time" "I") (by decide +kernel)) (fun _ h9 => h9) rfl dX6_passBitTime_159 ?_
                refine lv_topi (fun v44 ev44 => ?_)
                refine lv_iconst (v := 1) hx hb dX6_passBitTime_162 (by decide) ?_
                refine lv_iadd hx hb dX6_passBitTime_163 ?_
                refine lv_topi (fun v45 ev45 => ?_)
                refine zputi (ci := 6) (v := v45) (ty := .int) (C := RX6) (T := TX6) (N := 7) hx hb hts hi6 tyX6 tyX6_ok nmX6 hown hK hP hD hS hx6 rfl rfl 4 (by decide) (hts (.fieldLink RX6 35 "LinCluster" "time" "I") (by decide +kernel)) (fun _ h9 => h9) rfl (by decide +kernel) rfl rfl (Nat.le_of_ble_eq_true rfl) rfl dX6_passBitTime_164 (fun H locs hP hD hS => ?_)
                exact W.vret hx hb hr (fun t ht hW => ⟨⟨(zpi (zpj (zpi S38 x 5 0) x 6 v43) x 4 v45), rfl, ⟨(zpj (zpi S38 x 5 0) x 6 v43), hst, by rw [ev45, ev44, hst.1 x 4 (by rw [hx6.2]; rfl)]⟩, by rw [ht]; exact hP, va_K.moved hW.alike hK, hD⟩, hS.F ht⟩) hS.2.2 dX6_passBitTime_167
              · skip
                refine lv_aload_n hx hb dX6_passBitTime_131 rfl (lv_at hl 0 rfl) ?_
                refine zget (ci := 6) (C := RX6) (T := TX6) (N := 7) hx hb hts hi6 hown hK hP hx6 rfl rfl 5 (by decide) (hts (.fieldLink RX6 39 "LinCluster" "zeros" "I") (by decide +kernel)) (fun _ h9 => h9) rfl dX6_passBitTime_132 ?_
                refine lv_topi (fun v46 ev46 => ?_)
                refine lv_iconst (v := 1) hx hb dX6_passBitTime_135 (by decide) ?_
                refine lv_iadd hx hb dX6_passBitTime_136 ?_
                refine lv_topi (fun v47 ev47 => ?_)
                refine lv_goto (tgt := 141) hx hb dX6_passBitTime_137 (by decide) ?_
                refine zputi (ci := 6) (v := v47) (ty := .int) (C := RX6) (T := TX6) (N := 7) hx hb hts hi6 tyX6 tyX6_ok nmX6 hown hK hP hD hS hx6 rfl rfl 5 (by decide) (hts (.fieldLink RX6 39 "LinCluster" "zeros" "I") (by decide +kernel)) (fun _ h9 => h9) rfl (by decide +kernel) rfl rfl (Nat.le_of_ble_eq_true rfl) rfl dX6_passBitTime_141 (fun H locs hP hD hS => ?_)
                have hst := hst.pi (k := 5) (v := v47) hx6.2 rfl
                refine lv_aload_n hx hb dX6_passBitTime_144 rfl (lv_at hl 0 rfl) ?_
                refine lv_aload_n hx hb dX6_passBitTime_145 rfl (lv_at hl 0 rfl) ?_
                refine zget (ci := 6) (C := RX6) (T := TX6) (N := 7) hx hb hts hi6 hown hK hP hx6 rfl rfl 6 (by decide) (hts (.fieldLink RX6 44 "LinCluster" "past" "J") (by decide +kernel)) (fun _ h9 => h9) rfl dX6_passBitTime_146 ?_
                refine lv_topl (fun v48 ev48 => ?_)
                refine lv_iconst (v := 1) hx hb dX6_passBitTime_149 (by decide) ?_
                refine lv_lshl hx hb dX6_passBitTime_150 rfl ?_
                refine lv_topl (fun v49 ev49 => ?_)
                refine lv_iload_n hx hb dX6_passBitTime_151 rfl (lv_at hl 1 rfl) ?_
                refine lv_i2l hx hb dX6_passBitTime_152 rfl ?_
                refine lv_topl (fun v50 ev50 => ?_)
                refine lv_lor hx hb dX6_passBitTime_153 ?_
                refine lv_topl (fun v51 ev51 => ?_)
                refine zputj (ci := 6) (v := v51) (ty := .long) (C := RX6) (T := TX6) (N := 7) hx hb hts hi6 tyX6 tyX6_ok nmX6 hown hK hP hD hS hx6 rfl rfl 6 (by decide) (hts (.fieldLink RX6 44 "LinCluster" "past" "J") (by decide +kernel)) (fun _ h9 => h9) rfl (by decide +kernel) rfl rfl (Nat.le_of_ble_eq_true rfl) rfl dX6_passBitTime_154 (fun H locs hP hD hS => ?_)
                have hst := hst.pj (k := 6) (v := v51) hx6.2 rfl
                refine lv_aload_n hx hb dX6_passBitTime_157 rfl (lv_at hl 0 rfl) ?_
                refine lv_dup hx hb dX6_passBitTime_158 rfl ?_
                refine zget (ci := 6) (C := RX6) (T := TX6) (N := 7) hx hb hts hi6 hown hK hP hx6 rfl rfl 4 (by decide) (hts (.fieldLink RX6 35 "LinCluster" "time" "I") (by decide +kernel)) (fun _ h9 => h9) rfl dX6_passBitTime_159 ?_
                refine lv_topi (fun v52 ev52 => ?_)
                refine lv_iconst (v := 1) hx hb dX6_passBitTime_162 (by decide) ?_
                refine lv_iadd hx hb dX6_passBitTime_163 ?_
                refine lv_topi (fun v53 ev53 => ?_)
                refine zputi (ci := 6) (v := v53) (ty := .int) (C := RX6) (T := TX6) (N := 7) hx hb hts hi6 tyX6 tyX6_ok nmX6 hown hK hP hD hS hx6 rfl rfl 4 (by decide) (hts (.fieldLink RX6 35 "LinCluster" "time" "I") (by decide +kernel)) (fun _ h9 => h9) rfl (by decide +kernel) rfl rfl (Nat.le_of_ble_eq_true rfl) rfl dX6_passBitTime_164 (fun H locs hP hD hS => ?_)
                exact W.vret hx hb hr (fun t ht hW => ⟨⟨(zpi (zpj (zpi S38 x 5 v47) x 6 v51) x 4 v53), rfl, ⟨(zpj (zpi S38 x 5 v47) x 6 v51), hst, by rw [ev53, ev52, hst.1 x 4 (by rw [hx6.2]; rfl)]⟩, by rw [ht]; exact hP, va_K.moved hW.alike hK, hD⟩, hS.F ht⟩) hS.2.2 dX6_passBitTime_167
            · skip
              refine lv_iconst (v := 1) hx hb dX6_passBitTime_118 (by decide) ?_
              refine lv_goto (tgt := 123) hx hb dX6_passBitTime_119 (by decide) ?_
              refine zcallv (va_runV (As := [.int 1]) (rest := []) ⟨hx, hb, hml, hown, hts⟩ (c_X5_followMaster l dC dI cy G S9 H.size sc ia na 1 (hst.sc hSc)) (cwV 1 hts gX6_passBitTime_X5_followMaster rfl rfl rfl (by decide +kernel) ⟨Nat.le_of_ble_eq_true rfl, Nat.le_of_ble_eq_true rfl⟩) (zpreV hK hP hD hN (zrecv5 hK hP hSc.1)) rfl rfl hl.1 rfl (lv_room (Nat.le_of_ble_eq_true rfl)) dX6_passBitTime_123 ⟨Nat.le_of_ble_eq_true rfl, Nat.le_of_ble_eq_true rfl⟩) hS hD hA (fun S55 H locs hr54 hP hD hS => ?_)
              have hst := hst.trans hr54
              refine lv_aload_n hx hb dX6_passBitTime_126 rfl (lv_at hl 0 rfl) ?_
              refine lv_iload_n hx hb dX6_passBitTime_127 rfl (lv_at hl 1 rfl) ?_
              refine lv_if_ne (tgt := 140) hx hb dX6_passBitTime_128 (by decide) (fun c56 => ?_) (fun c56 => ?_)
              · skip
                refine lv_iconst (v := 0) hx hb dX6_passBitTime_140 (by decide) ?_
                refine zputi (ci := 6) (v := 0) (ty := .int) (C := RX6) (T := TX6) (N := 7) hx hb hts hi6 tyX6 tyX6_ok nmX6 hown hK hP hD hS hx6 rfl rfl 5 (by decide) (hts (.fieldLink RX6 39 "LinCluster" "zeros" "I") (by decide +kernel)) (fun _ h9 => h9) rfl (by decide +kernel) rfl rfl (Nat.le_of_ble_eq_true rfl) rfl dX6_passBitTime_141 (fun H locs hP hD hS => ?_)
                have hst := hst.pi (k := 5) (v := 0) hx6.2 rfl
                refine lv_aload_n hx hb dX6_passBitTime_144 rfl (lv_at hl 0 rfl) ?_
                refine lv_aload_n hx hb dX6_passBitTime_145 rfl (lv_at hl 0 rfl) ?_
                refine zget (ci := 6) (C := RX6) (T := TX6) (N := 7) hx hb hts hi6 hown hK hP hx6 rfl rfl 6 (by decide) (hts (.fieldLink RX6 44 "LinCluster" "past" "J") (by decide +kernel)) (fun _ h9 => h9) rfl dX6_passBitTime_146 ?_
                refine lv_topl (fun v57 ev57 => ?_)
                refine lv_iconst (v := 1) hx hb dX6_passBitTime_149 (by decide) ?_
                refine lv_lshl hx hb dX6_passBitTime_150 rfl ?_
                refine lv_topl (fun v58 ev58 => ?_)
                refine lv_iload_n hx hb dX6_passBitTime_151 rfl (lv_at hl 1 rfl) ?_
                refine lv_i2l hx hb dX6_passBitTime_152 rfl ?_
                refine lv_topl (fun v59 ev59 => ?_)
                refine lv_lor hx hb dX6_passBitTime_153 ?_
                refine lv_topl (fun v60 ev60 => ?_)
                refine zputj (ci := 6) (v := v60) (ty := .long) (C := RX6) (T := TX6) (N := 7) hx hb hts hi6 tyX6 tyX6_ok nmX6 hown hK hP hD hS hx6 rfl rfl 6 (by decide) (hts (.fieldLink RX6 44 "LinCluster" "past" "J") (by decide +kernel)) (fun _ h9 => h9) rfl (by decide +kernel) rfl rfl (Nat.le_of_ble_eq_true rfl) rfl dX6_passBitTime_154 (fun H locs hP hD hS => ?_)
                have hst := hst.pj (k := 6) (v := v60) hx6.2 rfl
                refine lv_aload_n hx hb dX6_passBitTime_157 rfl (lv_at hl 0 rfl) ?_
                refine lv_dup hx hb dX6_passBitTime_158 rfl ?_
                refine zget (ci := 6) (C := RX6) (T := TX6) (N := 7) hx hb hts hi6 hown hK hP hx6 rfl rfl 4 (by decide) (hts (.fieldLink RX6 35 "LinCluster" "time" "I") (by decide +kernel)) (fun _ h9 => h9) rfl dX6_passBitTime_159 ?_
                refine lv_topi (fun v61 ev61 => ?_)
                refine lv_iconst (v := 1) hx hb dX6_passBitTime_162 (by decide) ?_
                refine lv_iadd hx hb dX6_passBitTime_163 ?_
                refine lv_topi (fun v62 ev62 => ?_)
                refine zputi (ci := 6) (v := v62) (ty := .int) (C := RX6) (T := TX6) (N := 7) hx hb hts hi6 tyX6 tyX6_ok nmX6 hown hK hP hD hS hx6 rfl rfl 4 (by decide) (hts (.fieldLink RX6 35 "LinCluster" "time" "I") (by decide +kernel)) (fun _ h9 => h9) rfl (by decide +kernel) rfl rfl (Nat.le_of_ble_eq_true rfl) rfl dX6_passBitTime_164 (fun H locs hP hD hS => ?_)
                exact W.vret hx hb hr (fun t ht hW => ⟨⟨(zpi (zpj (zpi S55 x 5 0) x 6 v60) x 4 v62), rfl, ⟨(zpj (zpi S55 x 5 0) x 6 v60), hst, by rw [ev62, ev61, hst.1 x 4 (by rw [hx6.2]; rfl)]⟩, by rw [ht]; exact hP, va_K.moved hW.alike hK, hD⟩, hS.F ht⟩) hS.2.2 dX6_passBitTime_167
              · skip
                refine lv_aload_n hx hb dX6_passBitTime_131 rfl (lv_at hl 0 rfl) ?_
                refine zget (ci := 6) (C := RX6) (T := TX6) (N := 7) hx hb hts hi6 hown hK hP hx6 rfl rfl 5 (by decide) (hts (.fieldLink RX6 39 "LinCluster" "zeros" "I") (by decide +kernel)) (fun _ h9 => h9) rfl dX6_passBitTime_132 ?_
                refine lv_topi (fun v63 ev63 => ?_)
                refine lv_iconst (v := 1) hx hb dX6_passBitTime_135 (by decide) ?_
                refine lv_iadd hx hb dX6_passBitTime_136 ?_
                refine lv_topi (fun v64 ev64 => ?_)
                refine lv_goto (tgt := 141) hx hb dX6_passBitTime_137 (by decide) ?_
                refine zputi (ci := 6) (v := v64) (ty := .int) (C := RX6) (T := TX6) (N := 7) hx hb hts hi6 tyX6 tyX6_ok nmX6 hown hK hP hD hS hx6 rfl rfl 5 (by decide) (hts (.fieldLink RX6 39 "LinCluster" "zeros" "I") (by decide +kernel)) (fun _ h9 => h9) rfl (by decide +kernel) rfl rfl (Nat.le_of_ble_eq_true rfl) rfl dX6_passBitTime_141 (fun H locs hP hD hS => ?_)
                have hst := hst.pi (k := 5) (v := v64) hx6.2 rfl
                refine lv_aload_n hx hb dX6_passBitTime_144 rfl (lv_at hl 0 rfl) ?_
                refine lv_aload_n hx hb dX6_passBitTime_145 rfl (lv_at hl 0 rfl) ?_
                refine zget (ci := 6) (C := RX6) (T := TX6) (N := 7) hx hb hts hi6 hown hK hP hx6 rfl rfl 6 (by decide) (hts (.fieldLink RX6 44 "LinCluster" "past" "J") (by decide +kernel)) (fun _ h9 => h9) rfl dX6_passBitTime_146 ?_
                refine lv_topl (fun v65 ev65 => ?_)
                refine lv_iconst (v := 1) hx hb dX6_passBitTime_149 (by decide) ?_
                refine lv_lshl hx hb dX6_passBitTime_150 rfl ?_
                refine lv_topl (fun v66 ev66 => ?_)
                refine lv_iload_n hx hb dX6_passBitTime_151 rfl (lv_at hl 1 rfl) ?_
                refine lv_i2l hx hb dX6_passBitTime_152 rfl ?_
                refine lv_topl (fun v67 ev67 => ?_)
                refine lv_lor hx hb dX6_passBitTime_153 ?_
                refine lv_topl (fun v68 ev68 => ?_)
                refine zputj (ci := 6) (v := v68) (ty := .long) (C := RX6) (T := TX6) (N := 7) hx hb hts hi6 tyX6 tyX6_ok nmX6 hown hK hP hD hS hx6 rfl rfl 6 (by decide) (hts (.fieldLink RX6 44 "LinCluster" "past" "J") (by decide +kernel)) (fun _ h9 => h9) rfl (by decide +kernel) rfl rfl (Nat.le_of_ble_eq_true rfl) rfl dX6_passBitTime_154 (fun H locs hP hD hS => ?_)
                have hst := hst.pj (k := 6) (v := v68) hx6.2 rfl
                refine lv_aload_n hx hb dX6_passBitTime_157 rfl (lv_at hl 0 rfl) ?_
                refine lv_dup hx hb dX6_passBitTime_158 rfl ?_
                refine zget (ci := 6) (C := RX6) (T := TX6) (N := 7) hx hb hts hi6 hown hK hP hx6 rfl rfl 4 (by decide) (hts (.fieldLink RX6 35 "LinCluster" "time" "I") (by decide +kernel)) (fun _ h9 => h9) rfl dX6_passBitTime_159 ?_
                refine lv_topi (fun v69 ev69 => ?_)
                refine lv_iconst (v := 1) hx hb dX6_passBitTime_162 (by decide) ?_
                refine lv_iadd hx hb dX6_passBitTime_163 ?_
                refine lv_topi (fun v70 ev70 => ?_)
                refine zputi (ci := 6) (v := v70) (ty := .int) (C := RX6) (T := TX6) (N := 7) hx hb hts hi6 tyX6 tyX6_ok nmX6 hown hK hP hD hS hx6 rfl rfl 4 (by decide) (hts (.fieldLink RX6 35 "LinCluster" "time" "I") (by decide +kernel)) (fun _ h9 => h9) rfl (by decide +kernel) rfl rfl (Nat.le_of_ble_eq_true rfl) rfl dX6_passBitTime_164 (fun H locs hP hD hS => ?_)
                exact W.vret hx hb hr (fun t ht hW => ⟨⟨(zpi (zpj (zpi S55 x 5 v64) x 6 v68) x 4 v70), rfl, ⟨(zpj (zpi S55 x 5 v64) x 6 v68), hst, by rw [ev70, ev69, hst.1 x 4 (by rw [hx6.2]; rfl)]⟩, by rw [ht]; exact hP, va_K.moved hW.alike hK, hD⟩, hS.F ht⟩) hS.2.2 dX6_passBitTime_167
        · exact absurd (nI_le (a := 8) (b := 8) (Nat.le_refl _) (by omega)) c13
      · intro n8 k9 x9 S9 H locs ls hk9 ih hst hP hD hS hl
        have hl : lv_has ls 4 [(0, .ref x), (1, .int r5), (2, .int r12), (3, .int (nI k9))] := hl
        refine lv_iload_n hx hb dX6_passBitTime_64 rfl (lv_at hl 3 rfl) ?_
        refine lv_aload_n hx hb dX6_passBitTime_65 rfl (lv_at hl 0 rfl) ?_
        refine zget (ci := 6) (C := RX6) (T := TX6) (N := 7) hx hb hts hi6 hown hK hP hx6 rfl rfl 1 (by decide) (hts (.fieldLink RX6 17 "LinCluster" "nodes" "[LLinCluster$Node;") (by decide +kernel)) (fun _ h9 => h9) (v := .ref n) (congrArg (fun z => some (va_rf z)) (hst.q hx6.2 rfl hq1)) dX6_passBitTime_66 ?_
        refine znalen (v := 8) hx hb hK hP hNs.1 hNs.2.1 (by decide) dX6_passBitTime_69 ?_
        refine lv_icmp_ge (tgt := 97) hx hb dX6_passBitTime_70 (by decide) (fun c71 => ?_) (fun c71 => ?_)
        · exact absurd c71 (nI_ge (a := k9) (b := 8) (by omega) (by omega))
        · skip
          refine lv_aload_n hx hb dX6_passBitTime_73 rfl (lv_at hl 0 rfl) ?_
          refine zget (ci := 6) (C := RX6) (T := TX6) (N := 7) hx hb hts hi6 hown hK hP hx6 rfl rfl 1 (by decide) (hts (.fieldLink RX6 17 "LinCluster" "nodes" "[LLinCluster$Node;") (by decide +kernel)) (fun _ h9 => h9) (v := .ref n) (congrArg (fun z => some (va_rf z)) (hst.q hx6.2 rfl hq1)) dX6_passBitTime_74 ?_
          refine lv_iload_n hx hb dX6_passBitTime_77 rfl (lv_at hl 3 rfl) ?_
          refine znald hx hb hK hP hNs.1 hNs.2.1 (vp_in_nI (n := k9) (by omega) (by omega)) dX6_passBitTime_78 ?_
          obtain ⟨nd72, i73, r74, hq75, hNd76⟩ := hNs.2.2 k9 (by omega)
          rw [(nI_clamp (n := k9) (by omega)), hst.q hNs.1.2 rfl hq75]
          refine W.eq (g2 := F0 m 79 ls [.ref nd72]) rfl ?_
          refine lv_iload_n hx hb dX6_passBitTime_79 rfl (lv_at hl 1 rfl) ?_
          refine lv_aload_n hx hb dX6_passBitTime_80 rfl (lv_at hl 0 rfl) ?_
          refine zget (ci := 6) (C := RX6) (T := TX6) (N := 7) hx hb hts hi6 hown hK hP hx6 rfl rfl 5 (by decide) (hts (.fieldLink RX6 39 "LinCluster" "zeros" "I") (by decide +kernel)) (fun _ h9 => h9) rfl dX6_passBitTime_81 ?_
          refine lv_topi (fun v77 ev77 => ?_)
          refine lv_aload_n hx hb dX6_passBitTime_84 rfl (lv_at hl 0 rfl) ?_
          refine zget (ci := 6) (C := RX6) (T := TX6) (N := 7) hx hb hts hi6 hown hK hP hx6 rfl rfl 0 (by decide) (hts (.fieldLink RX6 11 "LinCluster" "frames" "[LLinCluster$Frame;") (by decide +kernel)) (fun _ h9 => h9) (v := .ref f) (congrArg (fun z => some (va_rf z)) (hst.q hx6.2 rfl hq0)) dX6_passBitTime_85 ?_
          refine zcallv (va_runV (As := [.int r5, .int v77, .ref f]) (rest := []) ⟨hx, hb, hml, hown, hts⟩ (c_X3_look l dC dI cy G S9 H.size nd72 i73 r74 f r5 v77 (hst.nd hNd76) (hst.rf hRf) (hst.fa hFa)) (cwV 3 hts gX6_passBitTime_X3_look rfl rfl rfl (by decide +kernel) ⟨Nat.le_of_ble_eq_true rfl, Nat.le_of_ble_eq_true rfl⟩) (zpreV hK hP hD hN (zrecv3 hK hP hNd76.1)) rfl rfl hl.1 rfl (lv_room (Nat.le_of_ble_eq_true rfl)) dX6_passBitTime_88 ⟨Nat.le_of_ble_eq_true rfl, Nat.le_of_ble_eq_true rfl⟩) hS hD hA (fun S79 H locs hr78 hP hD hS => ?_)
          have hst := hst.trans hr78
          obtain ⟨v80, ev80⟩ : ∃ y : Int32, y = (nI k9) + 1 := ⟨_, rfl⟩
          refine lv_iinc (v := v80) (lv' := [(3, .int v80), (0, .ref x), (1, .int r5), (2, .int r12)]) hx hb dX6_passBitTime_91 hl (k := 3) rfl (by rw [ev80]; rfl) (by decide) rfl (fun ls hl => ?_)
          refine lv_goto (tgt := 64) hx hb dX6_passBitTime_94 (by decide) ?_
          have e9 : v80 = nI (k9 + 1) := by rw [ev80]; exact nI_1 k9
          rw [e9] at hl
          exact ih () S79 H locs ls hst hP hD hS (lv_sub hl [1, 2, 3, 0] rfl)
    · exact absurd (nI_le (a := 8) (b := 8) (Nat.le_refl _) (by omega)) c3
  · intro n8 k9 x9 ls hk9 ih hl
    have hl : lv_has ls 4 [(0, .ref x), (1, .int x9), (2, .int (nI k9))] := hl
    refine lv_iload_n hx hb dX6_passBitTime_10 rfl (lv_at hl 2 rfl) ?_
    refine lv_aload_n hx hb dX6_passBitTime_11 rfl (lv_at hl 0 rfl) ?_
    refine zget (ci := 6) (C := RX6) (T := TX6) (N := 7) hx hb hts hi6 hown hK hP hx6 rfl rfl 1 (by decide) (hts (.fieldLink RX6 17 "LinCluster" "nodes" "[LLinCluster$Node;") (by decide +kernel)) (fun _ h9 => h9) (v := .ref n) (congrArg (fun z => some (va_rf z)) (hst.q hx6.2 rfl hq1)) dX6_passBitTime_12 ?_
    refine znalen (v := 8) hx hb hK hP hNs.1 hNs.2.1 (by decide) dX6_passBitTime_15 ?_
    refine lv_icmp_ge (tgt := 39) hx hb dX6_passBitTime_16 (by decide) (fun c81 => ?_) (fun c81 => ?_)
    · exact absurd c81 (nI_ge (a := k9) (b := 8) (by omega) (by omega))
    · skip
      refine lv_iload_n hx hb dX6_passBitTime_19 rfl (lv_at hl 1 rfl) ?_
      refine lv_aload_n hx hb dX6_passBitTime_20 rfl (lv_at hl 0 rfl) ?_
      refine zget (ci := 6) (C := RX6) (T := TX6) (N := 7) hx hb hts hi6 hown hK hP hx6 rfl rfl 1 (by decide) (hts (.fieldLink RX6 17 "LinCluster" "nodes" "[LLinCluster$Node;") (by decide +kernel)) (fun _ h9 => h9) (v := .ref n) (congrArg (fun z => some (va_rf z)) (hst.q hx6.2 rfl hq1)) dX6_passBitTime_21 ?_
      refine lv_iload_n hx hb dX6_passBitTime_24 rfl (lv_at hl 2 rfl) ?_
      refine znald hx hb hK hP hNs.1 hNs.2.1 (vp_in_nI (n := k9) (by omega) (by omega)) dX6_passBitTime_25 ?_
      obtain ⟨nd82, i83, r84, hq85, hNd86⟩ := hNs.2.2 k9 (by omega)
      rw [(nI_clamp (n := k9) (by omega)), hst.q hNs.1.2 rfl hq85]
      refine W.eq (g2 := F0 m 26 ls [.ref nd82, .int x9]) rfl ?_
      refine vp_callSi (va_Run.run (va_runV (As := []) (rest := [.int x9]) ⟨hx, hb, hml, hown, hts⟩ (c_X3_bitToSay l dC dI cy G S2 H.size nd82 i83 r84  (hst.nd hNd86)) (cwV 0 hts gX6_passBitTime_X3_bitToSay rfl rfl rfl (by decide +kernel) ⟨Nat.le_of_ble_eq_true rfl, Nat.le_of_ble_eq_true rfl⟩) (zpreV hK hP hD hN (zrecv3 hK hP hNd86.1)) rfl rfl hl.1 rfl (lv_room (Nat.le_of_ble_eq_true rfl)) dX6_passBitTime_26 ⟨Nat.le_of_ble_eq_true rfl, Nat.le_of_ble_eq_true rfl⟩)) (fun r87 hr87 => ?_)
      refine va_mmin hx hb (by rw [hml]; exact hl.1.symm) hown (hts (.methodLink RX6 196 Lib.Math.min.name) (by decide +kernel)) (hts (.static Lib.Math.min.name) (by decide +kernel)) (hts (.initialized "java/lang/Math") (by decide +kernel)) (hts (.code Lib.Math.min.name Lib.Math.min.code 2 (some .int)) (by decide +kernel)) (Nat.le_of_ble_eq_true rfl) (Nat.le_of_ble_eq_true rfl) (Nat.zero_le _) (Nat.zero_le _) dX6_passBitTime_29 ?_
      refine lv_topi (fun v88 ev88 => ?_)
      refine lv_istore_n (lv' := [(1, .int v88), (0, .ref x), (2, .int (nI k9))]) hx hb dX6_passBitTime_32 rfl hl (by decide) rfl (fun ls hl => ?_)
      obtain ⟨v89, ev89⟩ : ∃ y : Int32, y = (nI k9) + 1 := ⟨_, rfl⟩
      refine lv_iinc (v := v89) (lv' := [(2, .int v89), (1, .int v88), (0, .ref x)]) hx hb dX6_passBitTime_33 hl (k := 2) rfl (by rw [ev89]; rfl) (by decide) rfl (fun ls hl => ?_)
      refine lv_goto (tgt := 10) hx hb dX6_passBitTime_36 (by decide) ?_
      have e9 : v89 = nI (k9 + 1) := by rw [ev89]; exact nI_1 k9
      rw [e9] at hl
      exact ih v88 ls (lv_sub hl [2, 1, 0] rfl)
