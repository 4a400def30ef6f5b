def zLw (dC : Nat → ClassId) (dI : Nat → Nat → Nat) (cy : Nat → ClassId) (s : State) (A : Nat → Prop) (x f n sc ia na d ka va o mo : Nat) (ad : Nat → Nat) (G1 : zG) (S1 : zS) (G2 : zG) (S2 : zS) (H : Heap) (locs : List Loc) : Prop :=
  (va_P (dC, dI) vwCl (zW cy G1 S1) H ∧ va_D A (zW cy G1 S1) ∧ va_P (dC, dI) vwCl (zW cy G2 S2) H ∧ va_D A (zW cy G2 S2) ∧ zAp (zW cy G1 S1) (zW cy G2 S2)) ∧ va_S A s.heap H locs ∧ zCI G1 S1 x f n sc ia na d ka va o ∧ zMI G2 S2 mo ad ∧ zRl x f n sc mo ad S1 S2
/-- what holds all through the law -/
def zLc (p : Program) (l : Launch) (s : State) (m : MethodId) (args : Array Value) (c : Code) (dC : Nat → ClassId) (dI : Nat → Nat → Nat) (cy : Nat → ClassId) (A : Nat → Prop) (b L : Nat) (xs : Nat → Int32) : Prop :=
  CallFix p m c cL_law 7 s args wsL_law RL ∧ (va_X b L xs s s.heap ∧ b < s.heap.size ∧ ¬ A b ∧ L ≤ 2560) ∧ (∀ q : Nat, s.heap.size ≤ q → A q) ∧ va_K (dC, dI) vwCl (zT cy) s ∧ zN s ∧ zEx A s s.heap ∧ va_Nc "java/lang/IllegalStateException" "java/lang/IllegalArgumentException" s ∧ l.stackTraces = false
theorem zcmp0 {a b : Int64} (h : a = b) : lg_cmp a b = 0 := by subst h; simp [lg_cmp]
set_option maxHeartbeats 4000000 in
set_option maxRecDepth 100000 in
theorem q_frame {p : Program} {l : Launch} {e : Env} {s : State} {m : MethodId} {args : Array Value} {below : List Frame} {meth : Method} {c : Code} {H : Heap} {locs : List Loc} {cells slots : Nat} {Q : State → Prop} {ls : Array Slot} {dC : Nat → ClassId} {dI : Nat → Nat → Nat} {cy : Nat → ClassId} {A : Nat → Prop} {b L : Nat} {xs : Nat → Int32} {x f n sc ia na d ka va o mo : Nat} {ad : Nat → Nat} {G1 G2 : zG} {S1 S2 : zS} {i5 : Nat} {a1 a2 a3 a4 : Int32} (C : zLc p l s m args c dC dI cy A b L xs) (hi5 : i5 + 5 ≤ L) (ha1 : xs (nI (i5 + 1)).toNatClampNeg = a1) (ha2 : xs (nI (i5 + 2)).toNatClampNeg = a2) (ha3 : xs (nI (i5 + 3)).toNatClampNeg = a3) (ha4 : xs (nI (i5 + 4)).toNatClampNeg = a4) (hce : cells + 3 ≤ 601024) (hse : slots + 25 ≤ 7293034) (h : zLw dC dI cy s A x f n sc ia na d ka va o mo ad G1 S1 G2 S2 H locs)
    (hl : lv_has ls 7 [(4, .int (nI i5)), (3, .ref o), (2, .ref mo), (1, .ref x), (0, .ref b)]) (kk : ∀ (G1' : zG) (S1' S2' : zS) (H' : Heap) (locs' : List Loc) (ls' : Array Slot), zLw dC dI cy s A x f n sc ia na d ka va o mo ad G1' S1' G2 S2' H' locs' → lv_has ls' 7 [(4, .int (nI i5)), (3, .ref o), (2, .ref mo), (1, .ref x), (0, .ref b)] → W p l e room_1 s m args below meth c H' locs' (cells + 3) (slots + 25) Q (F0 m 767 ls' [])) : W p l e room_1 s m args below meth c H locs cells slots Q (F0 m 112 ls []) := by
  obtain ⟨⟨hx, hb, hml, hown, hts⟩, ⟨hX, hbl, hbA, hL⟩, hA, hK, hN, hE, hNc, hlt⟩ := C
  obtain ⟨⟨hP1, hD1, hP2, hD2, hAp⟩, hS, hC, hM, hR⟩ := h
  refine lv_aload_n hx hb dL_law_112 rfl (lv_at hl 3 rfl) ?_
  refine lv_aload_n hx hb dL_law_113 rfl (lv_at hl 4 rfl) ?_
  refine lv_iload hx hb dL_law_114 (lv_at hl 0 rfl) ?_
  refine lv_iconst (v := 1) hx hb dL_law_116 (by decide) ?_
  refine lv_iadd hx hb dL_law_117 ?_
  refine lv_topi (fun v1 ev1 => ?_)
  obtain rfl : v1 = nI (i5 + 1) := ev1.trans (nI_add i5 1)
  refine va_sld hx hb hX hbl hbA hS (vp_in_nI (by omega) (by omega)) dL_law_118 ?_
  rw [ha1]
  refine lv_aload_n hx hb dL_law_119 rfl (lv_at hl 4 rfl) ?_
  refine lv_iload hx hb dL_law_120 (lv_at hl 0 rfl) ?_
  refine lv_iconst (v := 2) hx hb dL_law_122 (by decide) ?_
  refine lv_iadd hx hb dL_law_123 ?_
  refine lv_topi (fun v2 ev2 => ?_)
  obtain rfl : v2 = nI (i5 + 2) := ev2.trans (nI_add i5 2)
  refine va_sld hx hb hX hbl hbA hS (vp_in_nI (by omega) (by omega)) dL_law_124 ?_
  rw [ha2]
  refine lv_aload_n hx hb dL_law_125 rfl (lv_at hl 4 rfl) ?_
  refine lv_iload hx hb dL_law_126 (lv_at hl 0 rfl) ?_
  refine lv_iconst (v := 3) hx hb dL_law_128 (by decide) ?_
  refine lv_iadd hx hb dL_law_129 ?_
  refine lv_topi (fun v3 ev3 => ?_)
  obtain rfl : v3 = nI (i5 + 3) := ev3.trans (nI_add i5 3)
  refine va_sld hx hb hX hbl hbA hS (vp_in_nI (by omega) (by omega)) dL_law_130 ?_
  rw [ha3]
  refine lv_aload_n hx hb dL_law_131 rfl (lv_at hl 4 rfl) ?_
  refine lv_iload hx hb dL_law_132 (lv_at hl 0 rfl) ?_
  refine lv_iconst (v := 4) hx hb dL_law_134 (by decide) ?_
  refine lv_iadd hx hb dL_law_135 ?_
  refine lv_topi (fun v4 ev4 => ?_)
  obtain rfl : v4 = nI (i5 + 4) := ev4.trans (nI_add i5 4)
  refine va_sld hx hb hX hbl hbA hS (vp_in_nI (by omega) (by omega)) dL_law_136 ?_
  rw [ha4]
  refine lv_if_eq (tgt := 144) hx hb dL_law_137 (by decide) (fun c5 => ?_) (fun c5 => ?_)
  · skip
    refine lv_iconst (v := 0) hx hb dL_law_144 (by decide) ?_
    refine zc2I (vx_runSW (As := [.ref x, .int a1, .int a2, .int a3, .int 0]) (rest := []) ⟨hx, hb, hml, hown, hts⟩ (w_L_frame l hlt dC dI cy G1 S1 H.size x f n sc ia na d ka va a1 a2 a3 0 hC.1) (vx_cwSW 5 hts gL_law_L_frame rfl rfl rfl (by decide +kernel) ⟨Nat.le_of_ble_eq_true rfl, Nat.le_of_ble_eq_true rfl⟩) (zpreSy hK hP1 hD1 hN hE hS hA hNc) rfl rfl hl.1 rfl (lv_room (Nat.le_of_ble_eq_true rfl)) dL_law_145 ⟨by show _ ≤ 601024; omega, by show _ ≤ 7293034; omega⟩) hS hD1 hA hP2 hAp (fun k9 u1 H locs hw hP1 hD1 hP2 hAp hS => ?_)
    refine lv_istore (lv' := [(5, .int k9), (4, .int (nI i5)), (3, .ref o), (2, .ref mo), (1, .ref x), (0, .ref b)]) hx hb dL_law_148 hl (by decide) rfl (fun ls hl => ?_)
    refine lv_aload_n hx hb dL_law_150 rfl (lv_at hl 3 rfl) ?_
    refine lv_aload_n hx hb dL_law_151 rfl (lv_at hl 5 rfl) ?_
    refine lv_iload hx hb dL_law_152 (lv_at hl 1 rfl) ?_
    refine lv_iconst (v := 1) hx hb dL_law_154 (by decide) ?_
    refine lv_iadd hx hb dL_law_155 ?_
    refine lv_topi (fun v6 ev6 => ?_)
    obtain rfl : v6 = nI (i5 + 1) := ev6.trans (nI_add i5 1)
    refine va_sld hx hb hX hbl hbA hS (vp_in_nI (by omega) (by omega)) dL_law_156 ?_
    rw [ha1]
    refine lv_aload_n hx hb dL_law_157 rfl (lv_at hl 5 rfl) ?_
    refine lv_iload hx hb dL_law_158 (lv_at hl 1 rfl) ?_
    refine lv_iconst (v := 2) hx hb dL_law_160 (by decide) ?_
    refine lv_iadd hx hb dL_law_161 ?_
    refine lv_topi (fun v7 ev7 => ?_)
    obtain rfl : v7 = nI (i5 + 2) := ev7.trans (nI_add i5 2)
    refine va_sld hx hb hX hbl hbA hS (vp_in_nI (by omega) (by omega)) dL_law_162 ?_
    rw [ha2]
    refine lv_aload_n hx hb dL_law_163 rfl (lv_at hl 5 rfl) ?_
    refine lv_iload hx hb dL_law_164 (lv_at hl 1 rfl) ?_
    refine lv_iconst (v := 3) hx hb dL_law_166 (by decide) ?_
    refine lv_iadd hx hb dL_law_167 ?_
    refine lv_topi (fun v8 ev8 => ?_)
    obtain rfl : v8 = nI (i5 + 3) := ev8.trans (nI_add i5 3)
    refine va_sld hx hb hX hbl hbA hS (vp_in_nI (by omega) (by omega)) dL_law_168 ?_
    rw [ha3]
    refine lv_aload_n hx hb dL_law_169 rfl (lv_at hl 5 rfl) ?_
    refine lv_iload hx hb dL_law_170 (lv_at hl 1 rfl) ?_
    refine lv_iconst (v := 4) hx hb dL_law_172 (by decide) ?_
    refine lv_iadd hx hb dL_law_173 ?_
    refine lv_topi (fun v9 ev9 => ?_)
    obtain rfl : v9 = nI (i5 + 4) := ev9.trans (nI_add i5 4)
    refine va_sld hx hb hX hbl hbA hS (vp_in_nI (by omega) (by omega)) dL_law_174 ?_
    rw [ha4]
    refine lv_if_eq (tgt := 182) hx hb dL_law_175 (by decide) (fun c10 => ?_) (fun c10 => ?_)
    · skip
      refine lv_iconst (v := 0) hx hb dL_law_182 (by decide) ?_
      refine zc2v (va_runV (As := [.int a1, .int a2, .int a3, .int 0]) (rest := []) ⟨hx, hb, hml, hown, hts⟩ (c_X7_frame l dC dI cy G2 S2 H.size mo ad a1 a2 a3 0 hM.1 hM.2.1 hM.2.2.1 hM.2.2.2) (cwV 4 hts gL_law_X7_frame rfl rfl rfl (by decide +kernel) ⟨Nat.le_of_ble_eq_true rfl, Nat.le_of_ble_eq_true rfl⟩) (zpreV hK hP2 hD2 hN (zrecv7 hK hP2 hM.1.1)) rfl rfl hl.1 rfl (lv_room (Nat.le_of_ble_eq_true rfl)) dL_law_183 ⟨by show _ ≤ 601024; omega, by show _ ≤ 7293034; omega⟩) hS hD2 hA hP1 hAp.symm (fun T2 H locs hm hP2 hD2 hP1 hAp hS => ?_)
      have hAp := hAp.symm
      obtain ⟨hC2, hM2, hR2, he2⟩ := s_frame (T1 := S1) hC hM hR hw hm
      refine lv_aload_n hx hb dL_law_186 rfl (lv_at hl 3 rfl) ?_
      refine vp_callSi (va_Run.run (va_runV (As := []) (rest := []) ⟨hx, hb, hml, hown, hts⟩ (c_X7_thrown l dC dI cy G2 T2 H.size mo ad hM2.1) (cwV 0 hts gL_law_X7_thrown rfl rfl rfl (by decide +kernel) ⟨Nat.le_of_ble_eq_true rfl, Nat.le_of_ble_eq_true rfl⟩) (zpreV hK hP2 hD2 hN (zrecv7 hK hP2 hM2.1.1)) rfl rfl hl.1 rfl (lv_room (Nat.le_of_ble_eq_true rfl)) dL_law_187 ⟨by show _ ≤ 601024; omega, by show _ ≤ 7293034; omega⟩)) (fun r9 hr9 => ?_)
      refine lv_iload hx hb dL_law_190 (lv_at hl 0 rfl) ?_
      refine lv_icmp_eq (tgt := 197) hx hb dL_law_192 (by decide) (fun c11 => ?_) (fun c11 => ?_)
      · skip
        refine lv_goto (tgt := 767) hx hb dL_law_197 (by decide) ?_
        refine W.widen (k := cells + 3) (n := slots + 25) (by omega) (by omega) ?_
        exact kk _ _ _ _ _ _ ⟨⟨hP1, hD1, hP2, hD2, hAp⟩, hS, hC2, hM2, hR2⟩ (lv_sub hl [1, 2, 3, 4, 5] rfl)
      · skip
        exact absurd (hr9.trans he2) c11
    · skip
      exact absurd c5 c10
  · skip
    refine lv_iconst (v := 1) hx hb dL_law_140 (by decide) ?_
    refine lv_goto (tgt := 145) hx hb dL_law_141 (by decide) ?_
    refine zc2I (vx_runSW (As := [.ref x, .int a1, .int a2, .int a3, .int 1]) (rest := []) ⟨hx, hb, hml, hown, hts⟩ (w_L_frame l hlt dC dI cy G1 S1 H.size x f n sc ia na d ka va a1 a2 a3 1 hC.1) (vx_cwSW 5 hts gL_law_L_frame rfl rfl rfl (by decide +kernel) ⟨Nat.le_of_ble_eq_true rfl, Nat.le_of_ble_eq_true rfl⟩) (zpreSy hK hP1 hD1 hN hE hS hA hNc) rfl rfl hl.1 rfl (lv_room (Nat.le_of_ble_eq_true rfl)) dL_law_145 ⟨by show _ ≤ 601024; omega, by show _ ≤ 7293034; omega⟩) hS hD1 hA hP2 hAp (fun k9 u1 H locs hw hP1 hD1 hP2 hAp hS => ?_)
    refine lv_istore (lv' := [(5, .int k9), (4, .int (nI i5)), (3, .ref o), (2, .ref mo), (1, .ref x), (0, .ref b)]) hx hb dL_law_148 hl (by decide) rfl (fun ls hl => ?_)
    refine lv_aload_n hx hb dL_law_150 rfl (lv_at hl 3 rfl) ?_
    refine lv_aload_n hx hb dL_law_151 rfl (lv_at hl 5 rfl) ?_
    refine lv_iload hx hb dL_law_152 (lv_at hl 1 rfl) ?_
    refine lv_iconst (v := 1) hx hb dL_law_154 (by decide) ?_
    refine lv_iadd hx hb dL_law_155 ?_
    refine lv_topi (fun v12 ev12 => ?_)
    obtain rfl : v12 = nI (i5 + 1) := ev12.trans (nI_add i5 1)
    refine va_sld hx hb hX hbl hbA hS (vp_in_nI (by omega) (by omega)) dL_law_156 ?_
    rw [ha1]
    refine lv_aload_n hx hb dL_law_157 rfl (lv_at hl 5 rfl) ?_
    refine lv_iload hx hb dL_law_158 (lv_at hl 1 rfl) ?_
    refine lv_iconst (v := 2) hx hb dL_law_160 (by decide) ?_
    refine lv_iadd hx hb dL_law_161 ?_
    refine lv_topi (fun v13 ev13 => ?_)
    obtain rfl : v13 = nI (i5 + 2) := ev13.trans (nI_add i5 2)
    refine va_sld hx hb hX hbl hbA hS (vp_in_nI (by omega) (by omega)) dL_law_162 ?_
    rw [ha2]
    refine lv_aload_n hx hb dL_law_163 rfl (lv_at hl 5 rfl) ?_
    refine lv_iload hx hb dL_law_164 (lv_at hl 1 rfl) ?_
    refine lv_iconst (v := 3) hx hb dL_law_166 (by decide) ?_
    refine lv_iadd hx hb dL_law_167 ?_
    refine lv_topi (fun v14 ev14 => ?_)
    obtain rfl : v14 = nI (i5 + 3) := ev14.trans (nI_add i5 3)
    refine va_sld hx hb hX hbl hbA hS (vp_in_nI (by omega) (by omega)) dL_law_168 ?_
    rw [ha3]
    refine lv_aload_n hx hb dL_law_169 rfl (lv_at hl 5 rfl) ?_
    refine lv_iload hx hb dL_law_170 (lv_at hl 1 rfl) ?_
    refine lv_iconst (v := 4) hx hb dL_law_172 (by decide) ?_
    refine lv_iadd hx hb dL_law_173 ?_
    refine lv_topi (fun v15 ev15 => ?_)
    obtain rfl : v15 = nI (i5 + 4) := ev15.trans (nI_add i5 4)
    refine va_sld hx hb hX hbl hbA hS (vp_in_nI (by omega) (by omega)) dL_law_174 ?_
    rw [ha4]
    refine lv_if_eq (tgt := 182) hx hb dL_law_175 (by decide) (fun c16 => ?_) (fun c16 => ?_)
    · skip
      exact absurd c16 c5
    · skip
      refine lv_iconst (v := 1) hx hb dL_law_178 (by decide) ?_
      refine lv_goto (tgt := 183) hx hb dL_law_179 (by decide) ?_
      refine zc2v (va_runV (As := [.int a1, .int a2, .int a3, .int 1]) (rest := []) ⟨hx, hb, hml, hown, hts⟩ (c_X7_frame l dC dI cy G2 S2 H.size mo ad a1 a2 a3 1 hM.1 hM.2.1 hM.2.2.1 hM.2.2.2) (cwV 4 hts gL_law_X7_frame rfl rfl rfl (by decide +kernel) ⟨Nat.le_of_ble_eq_true rfl, Nat.le_of_ble_eq_true rfl⟩) (zpreV hK hP2 hD2 hN (zrecv7 hK hP2 hM.1.1)) rfl rfl hl.1 rfl (lv_room (Nat.le_of_ble_eq_true rfl)) dL_law_183 ⟨by show _ ≤ 601024; omega, by show _ ≤ 7293034; omega⟩) hS hD2 hA hP1 hAp.symm (fun T2 H locs hm hP2 hD2 hP1 hAp hS => ?_)
      have hAp := hAp.symm
      obtain ⟨hC2, hM2, hR2, he2⟩ := s_frame (T1 := S1) hC hM hR hw hm
      refine lv_aload_n hx hb dL_law_186 rfl (lv_at hl 3 rfl) ?_
      refine vp_callSi (va_Run.run (va_runV (As := []) (rest := []) ⟨hx, hb, hml, hown, hts⟩ (c_X7_thrown l dC dI cy G2 T2 H.size mo ad hM2.1) (cwV 0 hts gL_law_X7_thrown rfl rfl rfl (by decide +kernel) ⟨Nat.le_of_ble_eq_true rfl, Nat.le_of_ble_eq_true rfl⟩) (zpreV hK hP2 hD2 hN (zrecv7 hK hP2 hM2.1.1)) rfl rfl hl.1 rfl (lv_room (Nat.le_of_ble_eq_true rfl)) dL_law_187 ⟨by show _ ≤ 601024; omega, by show _ ≤ 7293034; omega⟩)) (fun r9 hr9 => ?_)
      refine lv_iload hx hb dL_law_190 (lv_at hl 0 rfl) ?_
      refine lv_icmp_eq (tgt := 197) hx hb dL_law_192 (by decide) (fun c17 => ?_) (fun c17 => ?_)
      · skip
        refine lv_goto (tgt := 767) hx hb dL_law_197 (by decide) ?_
        refine W.widen (k := cells + 3) (n := slots + 25) (by omega) (by omega) ?_
        exact kk _ _ _ _ _ _ ⟨⟨hP1, hD1, hP2, hD2, hAp⟩, hS, hC2, hM2, hR2⟩ (lv_sub hl [1, 2, 3, 4, 5] rfl)
      · skip
        exact absurd (hr9.trans he2) c17
set_option maxHeartbeats 4000000 in
set_option maxRecDepth 100000 in
theorem q_listen {p : Program} {l : Launch} {e : Env} {s : State} {m : MethodId} {args : Array Value} {below : List Frame} {meth : Method} {c : Code} {H : Heap} {locs : List Loc} {cells slots : Nat} {Q : State → Prop} {ls : Array Slot} {dC : Nat → ClassId} {dI : Nat → Nat → Nat} {cy : Nat → ClassId} {A : Nat → Prop} {b L : Nat} {xs : Nat → Int32} {x f n sc ia na d ka va o mo : Nat} {ad : Nat → Nat} {G1 G2 : zG} {S1 S2 : zS} {i5 : Nat} {a1 a2 a3 a4 : Int32} (C : zLc p l s m args c dC dI cy A b L xs) (hi5 : i5 + 5 ≤ L) (ha1 : xs (nI (i5 + 1)).toNatClampNeg = a1) (ha2 : xs (nI (i5 + 2)).toNatClampNeg = a2) (ha3 : xs (nI (i5 + 3)).toNatClampNeg = a3) (ha4 : xs (nI (i5 + 4)).toNatClampNeg = a4) (hce : cells + 3 ≤ 601024) (hse : slots + 25 ≤ 7293034) (h : zLw dC dI cy s A x f n sc ia na d ka va o mo ad G1 S1 G2 S2 H locs)
    (hl : lv_has ls 7 [(4, .int (nI i5)), (3, .ref o), (2, .ref mo), (1, .ref x), (0, .ref b)]) (kk : ∀ (G1' : zG) (S1' S2' : zS) (H' : Heap) (locs' : List Loc) (ls' : Array Slot), zLw dC dI cy s A x f n sc ia na d ka va o mo ad G1' S1' G2 S2' H' locs' → lv_has ls' 7 [(4, .int (nI i5)), (3, .ref o), (2, .ref mo), (1, .ref x), (0, .ref b)] → W p l e room_1 s m args below meth c H' locs' (cells + 3) (slots + 25) Q (F0 m 767 ls' [])) : W p l e room_1 s m args below meth c H locs cells slots Q (F0 m 200 ls []) := by
  obtain ⟨⟨hx, hb, hml, hown, hts⟩, ⟨hX, hbl, hbA, hL⟩, hA, hK, hN, hE, hNc, hlt⟩ := C
  obtain ⟨⟨hP1, hD1, hP2, hD2, hAp⟩, hS, hC, hM, hR⟩ := h
  refine lv_aload_n hx hb dL_law_200 rfl (lv_at hl 3 rfl) ?_
  refine lv_aload_n hx hb dL_law_201 rfl (lv_at hl 4 rfl) ?_
  refine lv_iload hx hb dL_law_202 (lv_at hl 0 rfl) ?_
  refine lv_iconst (v := 1) hx hb dL_law_204 (by decide) ?_
  refine lv_iadd hx hb dL_law_205 ?_
  refine lv_topi (fun v1 ev1 => ?_)
  obtain rfl : v1 = nI (i5 + 1) := ev1.trans (nI_add i5 1)
  refine va_sld hx hb hX hbl hbA hS (vp_in_nI (by omega) (by omega)) dL_law_206 ?_
  rw [ha1]
  refine lv_aload_n hx hb dL_law_207 rfl (lv_at hl 4 rfl) ?_
  refine lv_iload hx hb dL_law_208 (lv_at hl 0 rfl) ?_
  refine lv_iconst (v := 2) hx hb dL_law_210 (by decide) ?_
  refine lv_iadd hx hb dL_law_211 ?_
  refine lv_topi (fun v2 ev2 => ?_)
  obtain rfl : v2 = nI (i5 + 2) := ev2.trans (nI_add i5 2)
  refine va_sld hx hb hX hbl hbA hS (vp_in_nI (by omega) (by omega)) dL_law_212 ?_
  rw [ha2]
  refine lv_aload_n hx hb dL_law_213 rfl (lv_at hl 4 rfl) ?_
  refine lv_iload hx hb dL_law_214 (lv_at hl 0 rfl) ?_
  refine lv_iconst (v := 3) hx hb dL_law_216 (by decide) ?_
  refine lv_iadd hx hb dL_law_217 ?_
  refine lv_topi (fun v3 ev3 => ?_)
  obtain rfl : v3 = nI (i5 + 3) := ev3.trans (nI_add i5 3)
  refine va_sld hx hb hX hbl hbA hS (vp_in_nI (by omega) (by omega)) dL_law_218 ?_
  rw [ha3]
  refine lv_if_eq (tgt := 226) hx hb dL_law_219 (by decide) (fun c4 => ?_) (fun c4 => ?_)
  · skip
    refine lv_iconst (v := 0) hx hb dL_law_226 (by decide) ?_
    refine lv_aload_n hx hb dL_law_227 rfl (lv_at hl 1 rfl) ?_
    refine zc2i (vx_runSW (As := [.ref x, .int a1, .int a2, .int 0, .ref o]) (rest := []) ⟨hx, hb, hml, hown, hts⟩ (w_L_listen l hlt dC dI cy G1 S1 H.size x f n sc ia na d ka va a1 a2 0 o hC.1 hC.2.1.1 hC.2.1.2) (vx_cwSW 5 hts gL_law_L_listen rfl rfl rfl (by decide +kernel) ⟨Nat.le_of_ble_eq_true rfl, Nat.le_of_ble_eq_true rfl⟩) (zpreSy hK hP1 hD1 hN hE hS hA hNc) rfl rfl hl.1 rfl (lv_room (Nat.le_of_ble_eq_true rfl)) dL_law_228 ⟨by show _ ≤ 601024; omega, by show _ ≤ 7293034; omega⟩) hS hD1 hA hP2 hAp (fun k9 T1 H locs hw hP1 hD1 hP2 hAp hS => ?_)
    refine lv_istore (lv' := [(5, .int k9), (4, .int (nI i5)), (3, .ref o), (2, .ref mo), (1, .ref x), (0, .ref b)]) hx hb dL_law_231 hl (by decide) rfl (fun ls hl => ?_)
    refine lv_aload_n hx hb dL_law_233 rfl (lv_at hl 3 rfl) ?_
    refine lv_aload_n hx hb dL_law_234 rfl (lv_at hl 5 rfl) ?_
    refine lv_iload hx hb dL_law_235 (lv_at hl 1 rfl) ?_
    refine lv_iconst (v := 1) hx hb dL_law_237 (by decide) ?_
    refine lv_iadd hx hb dL_law_238 ?_
    refine lv_topi (fun v5 ev5 => ?_)
    obtain rfl : v5 = nI (i5 + 1) := ev5.trans (nI_add i5 1)
    refine va_sld hx hb hX hbl hbA hS (vp_in_nI (by omega) (by omega)) dL_law_239 ?_
    rw [ha1]
    refine lv_aload_n hx hb dL_law_240 rfl (lv_at hl 5 rfl) ?_
    refine lv_iload hx hb dL_law_241 (lv_at hl 1 rfl) ?_
    refine lv_iconst (v := 2) hx hb dL_law_243 (by decide) ?_
    refine lv_iadd hx hb dL_law_244 ?_
    refine lv_topi (fun v6 ev6 => ?_)
    obtain rfl : v6 = nI (i5 + 2) := ev6.trans (nI_add i5 2)
    refine va_sld hx hb hX hbl hbA hS (vp_in_nI (by omega) (by omega)) dL_law_245 ?_
    rw [ha2]
    refine lv_aload_n hx hb dL_law_246 rfl (lv_at hl 5 rfl) ?_
    refine lv_iload hx hb dL_law_247 (lv_at hl 1 rfl) ?_
    refine lv_iconst (v := 3) hx hb dL_law_249 (by decide) ?_
    refine lv_iadd hx hb dL_law_250 ?_
    refine lv_topi (fun v7 ev7 => ?_)
    obtain rfl : v7 = nI (i5 + 3) := ev7.trans (nI_add i5 3)
    refine va_sld hx hb hX hbl hbA hS (vp_in_nI (by omega) (by omega)) dL_law_251 ?_
    rw [ha3]
    refine lv_if_eq (tgt := 259) hx hb dL_law_252 (by decide) (fun c8 => ?_) (fun c8 => ?_)
    · skip
      refine lv_iconst (v := 0) hx hb dL_law_259 (by decide) ?_
      refine zc2i (va_runV (As := [.int a1, .int a2, .int 0]) (rest := []) ⟨hx, hb, hml, hown, hts⟩ (c_X7_listen l dC dI cy G2 S2 H.size mo ad a1 a2 0 hM.1 hM.2.1 hM.2.2.1) (cwV 3 hts gL_law_X7_listen rfl rfl rfl (by decide +kernel) ⟨Nat.le_of_ble_eq_true rfl, Nat.le_of_ble_eq_true rfl⟩) (zpreV hK hP2 hD2 hN (zrecv7 hK hP2 hM.1.1)) rfl rfl hl.1 rfl (lv_room (Nat.le_of_ble_eq_true rfl)) dL_law_260 ⟨by show _ ≤ 601024; omega, by show _ ≤ 7293034; omega⟩) hS hD2 hA hP1 hAp.symm (fun r2 T2 H locs hm hP2 hD2 hP1 hAp hS => ?_)
      have hAp := hAp.symm
      obtain ⟨hC2, hv2⟩ := k_listen (v := a1) (id := a2) (b := 0) hC hw
      obtain ⟨hM2, hu2⟩ := m_listen hM hm
      have hR2 := hR.vw hv2 hu2
      refine lv_istore (lv' := [(6, .int r2), (5, .int k9), (4, .int (nI i5)), (3, .ref o), (2, .ref mo), (1, .ref x), (0, .ref b)]) hx hb dL_law_263 hl (by decide) rfl (fun ls hl => ?_)
      refine lv_goto (tgt := 767) hx hb dL_law_265 (by decide) ?_
      refine W.widen (k := cells + 3) (n := slots + 25) (by omega) (by omega) ?_
      exact kk _ _ _ _ _ _ ⟨⟨hP1, hD1, hP2, hD2, hAp⟩, hS, hC2, hM2, hR2⟩ (lv_sub hl [2, 3, 4, 5, 6] rfl)
    · skip
      exact absurd c4 c8
  · skip
    refine lv_iconst (v := 1) hx hb dL_law_222 (by decide) ?_
    refine lv_goto (tgt := 227) hx hb dL_law_223 (by decide) ?_
    refine lv_aload_n hx hb dL_law_227 rfl (lv_at hl 1 rfl) ?_
    refine zc2i (vx_runSW (As := [.ref x, .int a1, .int a2, .int 1, .ref o]) (rest := []) ⟨hx, hb, hml, hown, hts⟩ (w_L_listen l hlt dC dI cy G1 S1 H.size x f n sc ia na d ka va a1 a2 1 o hC.1 hC.2.1.1 hC.2.1.2) (vx_cwSW 5 hts gL_law_L_listen rfl rfl rfl (by decide +kernel) ⟨Nat.le_of_ble_eq_true rfl, Nat.le_of_ble_eq_true rfl⟩) (zpreSy hK hP1 hD1 hN hE hS hA hNc) rfl rfl hl.1 rfl (lv_room (Nat.le_of_ble_eq_true rfl)) dL_law_228 ⟨by show _ ≤ 601024; omega, by show _ ≤ 7293034; omega⟩) hS hD1 hA hP2 hAp (fun k9 T1 H locs hw hP1 hD1 hP2 hAp hS => ?_)
    refine lv_istore (lv' := [(5, .int k9), (4, .int (nI i5)), (3, .ref o), (2, .ref mo), (1, .ref x), (0, .ref b)]) hx hb dL_law_231 hl (by decide) rfl (fun ls hl => ?_)
    refine lv_aload_n hx hb dL_law_233 rfl (lv_at hl 3 rfl) ?_
    refine lv_aload_n hx hb dL_law_234 rfl (lv_at hl 5 rfl) ?_
    refine lv_iload hx hb dL_law_235 (lv_at hl 1 rfl) ?_
    refine lv_iconst (v := 1) hx hb dL_law_237 (by decide) ?_
    refine lv_iadd hx hb dL_law_238 ?_
    refine lv_topi (fun v9 ev9 => ?_)
    obtain rfl : v9 = nI (i5 + 1) := ev9.trans (nI_add i5 1)
    refine va_sld hx hb hX hbl hbA hS (vp_in_nI (by omega) (by omega)) dL_law_239 ?_
    rw [ha1]
    refine lv_aload_n hx hb dL_law_240 rfl (lv_at hl 5 rfl) ?_
    refine lv_iload hx hb dL_law_241 (lv_at hl 1 rfl) ?_
    refine lv_iconst (v := 2) hx hb dL_law_243 (by decide) ?_
    refine lv_iadd hx hb dL_law_244 ?_
    refine lv_topi (fun v10 ev10 => ?_)
    obtain rfl : v10 = nI (i5 + 2) := ev10.trans (nI_add i5 2)
    refine va_sld hx hb hX hbl hbA hS (vp_in_nI (by omega) (by omega)) dL_law_245 ?_
    rw [ha2]
    refine lv_aload_n hx hb dL_law_246 rfl (lv_at hl 5 rfl) ?_
    refine lv_iload hx hb dL_law_247 (lv_at hl 1 rfl) ?_
    refine lv_iconst (v := 3) hx hb dL_law_249 (by decide) ?_
    refine lv_iadd hx hb dL_law_250 ?_
    refine lv_topi (fun v11 ev11 => ?_)
    obtain rfl : v11 = nI (i5 + 3) := ev11.trans (nI_add i5 3)
    refine va_sld hx hb hX hbl hbA hS (vp_in_nI (by omega) (by omega)) dL_law_251 ?_
    rw [ha3]
    refine lv_if_eq (tgt := 259) hx hb dL_law_252 (by decide) (fun c12 => ?_) (fun c12 => ?_)
    · skip
      exact absurd c12 c4
    · skip
      refine lv_iconst (v := 1) hx hb dL_law_255 (by decide) ?_
      refine lv_goto (tgt := 260) hx hb dL_law_256 (by decide) ?_
      refine zc2i (va_runV (As := [.int a1, .int a2, .int 1]) (rest := []) ⟨hx, hb, hml, hown, hts⟩ (c_X7_listen l dC dI cy G2 S2 H.size mo ad a1 a2 1 hM.1 hM.2.1 hM.2.2.1) (cwV 3 hts gL_law_X7_listen rfl rfl rfl (by decide +kernel) ⟨Nat.le_of_ble_eq_true rfl, Nat.le_of_ble_eq_true rfl⟩) (zpreV hK hP2 hD2 hN (zrecv7 hK hP2 hM.1.1)) rfl rfl hl.1 rfl (lv_room (Nat.le_of_ble_eq_true rfl)) dL_law_260 ⟨by show _ ≤ 601024; omega, by show _ ≤ 7293034; omega⟩) hS hD2 hA hP1 hAp.symm (fun r2 T2 H locs hm hP2 hD2 hP1 hAp hS => ?_)
      have hAp := hAp.symm
      obtain ⟨hC2, hv2⟩ := k_listen (v := a1) (id := a2) (b := 1) hC hw
      obtain ⟨hM2, hu2⟩ := m_listen hM hm
      have hR2 := hR.vw hv2 hu2
      refine lv_istore (lv' := [(6, .int r2), (5, .int k9), (4, .int (nI i5)), (3, .ref o), (2, .ref mo), (1, .ref x), (0, .ref b)]) hx hb dL_law_263 hl (by decide) rfl (fun ls hl => ?_)
      refine lv_goto (tgt := 767) hx hb dL_law_265 (by decide) ?_
      refine W.widen (k := cells + 3) (n := slots + 25) (by omega) (by omega) ?_
      exact kk _ _ _ _ _ _ ⟨⟨hP1, hD1, hP2, hD2, hAp⟩, hS, hC2, hM2, hR2⟩ (lv_sub hl [2, 3, 4, 5, 6] rfl)
set_option maxHeartbeats 4000000 in
set_option maxRecDepth 100000 in
theorem q_status {p : Program} {l : Launch} {e : Env} {s : State} {m : MethodId} {args : Array Value} {below : List Frame} {meth : Method} {c : Code} {H : Heap} {locs : List Loc} {cells slots : Nat} {Q : State → Prop} {ls : Array Slot} {dC : Nat → ClassId} {dI : Nat → Nat → Nat} {cy : Nat → ClassId} {A : Nat → Prop} {b L : Nat} {xs : Nat → Int32} {x f n sc ia na d ka va o mo : Nat} {ad : Nat → Nat} {G1 G2 : zG} {S1 S2 : zS} {i5 : Nat} {a1 a2 a3 a4 : Int32} (C : zLc p l s m args c dC dI cy A b L xs) (hi5 : i5 + 5 ≤ L) (ha1 : xs (nI (i5 + 1)).toNatClampNeg = a1) (ha2 : xs (nI (i5 + 2)).toNatClampNeg = a2) (ha3 : xs (nI (i5 + 3)).toNatClampNeg = a3) (ha4 : xs (nI (i5 + 4)).toNatClampNeg = a4) (hce : cells + 3 ≤ 601024) (hse : slots + 25 ≤ 7293034) (h : zLw dC dI cy s A x f n sc ia na d ka va o mo ad G1 S1 G2 S2 H locs)
    (hl : lv_has ls 7 [(4, .int (nI i5)), (3, .ref o), (2, .ref mo), (1, .ref x), (0, .ref b)]) (kk : ∀ (G1' : zG) (S1' S2' : zS) (H' : Heap) (locs' : List Loc) (ls' : Array Slot), zLw dC dI cy s A x f n sc ia na d ka va o mo ad G1' S1' G2 S2' H' locs' → lv_has ls' 7 [(4, .int (nI i5)), (3, .ref o), (2, .ref mo), (1, .ref x), (0, .ref b)] → W p l e room_1 s m args below meth c H' locs' (cells + 3) (slots + 25) Q (F0 m 767 ls' [])) : W p l e room_1 s m args below meth c H locs cells slots Q (F0 m 268 ls []) := by
  obtain ⟨⟨hx, hb, hml, hown, hts⟩, ⟨hX, hbl, hbA, hL⟩, hA, hK, hN, hE, hNc, hlt⟩ := C
  obtain ⟨⟨hP1, hD1, hP2, hD2, hAp⟩, hS, hC, hM, hR⟩ := h
  refine lv_aload_n hx hb dL_law_268 rfl (lv_at hl 3 rfl) ?_
  refine lv_aload_n hx hb dL_law_269 rfl (lv_at hl 4 rfl) ?_
  refine lv_iload hx hb dL_law_270 (lv_at hl 0 rfl) ?_
  refine lv_iconst (v := 1) hx hb dL_law_272 (by decide) ?_
  refine lv_iadd hx hb dL_law_273 ?_
  refine lv_topi (fun v1 ev1 => ?_)
  obtain rfl : v1 = nI (i5 + 1) := ev1.trans (nI_add i5 1)
  refine va_sld hx hb hX hbl hbA hS (vp_in_nI (by omega) (by omega)) dL_law_274 ?_
  rw [ha1]
  refine lv_aload_n hx hb dL_law_275 rfl (lv_at hl 4 rfl) ?_
  refine lv_iload hx hb dL_law_276 (lv_at hl 0 rfl) ?_
  refine lv_iconst (v := 2) hx hb dL_law_278 (by decide) ?_
  refine lv_iadd hx hb dL_law_279 ?_
  refine lv_topi (fun v2 ev2 => ?_)
  obtain rfl : v2 = nI (i5 + 2) := ev2.trans (nI_add i5 2)
  refine va_sld hx hb hX hbl hbA hS (vp_in_nI (by omega) (by omega)) dL_law_280 ?_
  rw [ha2]
  refine lv_aload_n hx hb dL_law_281 rfl (lv_at hl 4 rfl) ?_
  refine lv_iload hx hb dL_law_282 (lv_at hl 0 rfl) ?_
  refine lv_iconst (v := 3) hx hb dL_law_284 (by decide) ?_
  refine lv_iadd hx hb dL_law_285 ?_
  refine lv_topi (fun v3 ev3 => ?_)
  obtain rfl : v3 = nI (i5 + 3) := ev3.trans (nI_add i5 3)
  refine va_sld hx hb hX hbl hbA hS (vp_in_nI (by omega) (by omega)) dL_law_286 ?_
  rw [ha3]
  refine lv_aload_n hx hb dL_law_287 rfl (lv_at hl 4 rfl) ?_
  refine lv_iload hx hb dL_law_288 (lv_at hl 0 rfl) ?_
  refine lv_iconst (v := 4) hx hb dL_law_290 (by decide) ?_
  refine lv_iadd hx hb dL_law_291 ?_
  refine lv_topi (fun v4 ev4 => ?_)
  obtain rfl : v4 = nI (i5 + 4) := ev4.trans (nI_add i5 4)
  refine va_sld hx hb hX hbl hbA hS (vp_in_nI (by omega) (by omega)) dL_law_292 ?_
  rw [ha4]
  refine zc2i (vx_runSW (As := [.ref x, .int a1, .int a2, .int a3, .int a4]) (rest := []) ⟨hx, hb, hml, hown, hts⟩ (w_L_status l hlt dC dI cy G1 S1 H.size x f n sc ia na d ka va a1 a2 a3 a4 hC.1) (vx_cwSW 5 hts gL_law_L_status rfl rfl rfl (by decide +kernel) ⟨Nat.le_of_ble_eq_true rfl, Nat.le_of_ble_eq_true rfl⟩) (zpreSy hK hP1 hD1 hN hE hS hA hNc) rfl rfl hl.1 rfl (lv_room (Nat.le_of_ble_eq_true rfl)) dL_law_293 ⟨by show _ ≤ 601024; omega, by show _ ≤ 7293034; omega⟩) hS hD1 hA hP2 hAp (fun k9 T1 H locs hw hP1 hD1 hP2 hAp hS => ?_)
  refine lv_istore (lv' := [(5, .int k9), (4, .int (nI i5)), (3, .ref o), (2, .ref mo), (1, .ref x), (0, .ref b)]) hx hb dL_law_296 hl (by decide) rfl (fun ls hl => ?_)
  refine lv_aload_n hx hb dL_law_298 rfl (lv_at hl 3 rfl) ?_
  refine lv_aload_n hx hb dL_law_299 rfl (lv_at hl 5 rfl) ?_
  refine lv_iload hx hb dL_law_300 (lv_at hl 1 rfl) ?_
  refine lv_iconst (v := 1) hx hb dL_law_302 (by decide) ?_
  refine lv_iadd hx hb dL_law_303 ?_
  refine lv_topi (fun v5 ev5 => ?_)
  obtain rfl : v5 = nI (i5 + 1) := ev5.trans (nI_add i5 1)
  refine va_sld hx hb hX hbl hbA hS (vp_in_nI (by omega) (by omega)) dL_law_304 ?_
  rw [ha1]
  refine lv_aload_n hx hb dL_law_305 rfl (lv_at hl 5 rfl) ?_
  refine lv_iload hx hb dL_law_306 (lv_at hl 1 rfl) ?_
  refine lv_iconst (v := 2) hx hb dL_law_308 (by decide) ?_
  refine lv_iadd hx hb dL_law_309 ?_
  refine lv_topi (fun v6 ev6 => ?_)
  obtain rfl : v6 = nI (i5 + 2) := ev6.trans (nI_add i5 2)
  refine va_sld hx hb hX hbl hbA hS (vp_in_nI (by omega) (by omega)) dL_law_310 ?_
  rw [ha2]
  refine lv_aload_n hx hb dL_law_311 rfl (lv_at hl 5 rfl) ?_
  refine lv_iload hx hb dL_law_312 (lv_at hl 1 rfl) ?_
  refine lv_iconst (v := 3) hx hb dL_law_314 (by decide) ?_
  refine lv_iadd hx hb dL_law_315 ?_
  refine lv_topi (fun v7 ev7 => ?_)
  obtain rfl : v7 = nI (i5 + 3) := ev7.trans (nI_add i5 3)
  refine va_sld hx hb hX hbl hbA hS (vp_in_nI (by omega) (by omega)) dL_law_316 ?_
  rw [ha3]
  refine lv_aload_n hx hb dL_law_317 rfl (lv_at hl 5 rfl) ?_
  refine lv_iload hx hb dL_law_318 (lv_at hl 1 rfl) ?_
  refine lv_iconst (v := 4) hx hb dL_law_320 (by decide) ?_
  refine lv_iadd hx hb dL_law_321 ?_
  refine lv_topi (fun v8 ev8 => ?_)
  obtain rfl : v8 = nI (i5 + 4) := ev8.trans (nI_add i5 4)
  refine va_sld hx hb hX hbl hbA hS (vp_in_nI (by omega) (by omega)) dL_law_322 ?_
  rw [ha4]
  refine zc2v (va_runV (As := [.int a1, .int a2, .int a3, .int a4]) (rest := []) ⟨hx, hb, hml, hown, hts⟩ (c_X7_status l dC dI cy G2 S2 H.size mo ad a1 a2 a3 a4 hM.1 hM.2.1) (cwV 4 hts gL_law_X7_status rfl rfl rfl (by decide +kernel) ⟨Nat.le_of_ble_eq_true rfl, Nat.le_of_ble_eq_true rfl⟩) (zpreV hK hP2 hD2 hN (zrecv7 hK hP2 hM.1.1)) rfl rfl hl.1 rfl (lv_room (Nat.le_of_ble_eq_true rfl)) dL_law_323 ⟨by show _ ≤ 601024; omega, by show _ ≤ 7293034; omega⟩) hS hD2 hA hP1 hAp.symm (fun T2 H locs hm hP2 hD2 hP1 hAp hS => ?_)
  have hAp := hAp.symm
  obtain ⟨hC2, hM2, hR2, he2⟩ := s_status hC hM hR hw hm
  refine lv_goto (tgt := 767) hx hb dL_law_326 (by decide) ?_
  refine W.widen (k := cells + 3) (n := slots + 25) (by omega) (by omega) ?_
  exact kk _ _ _ _ _ _ ⟨⟨hP1, hD1, hP2, hD2, hAp⟩, hS, hC2, hM2, hR2⟩ (lv_sub hl [1, 2, 3, 4, 5] rfl)
set_option maxHeartbeats 4000000 in
set_option maxRecDepth 100000 in
theorem q_space {p : Program} {l : Launch} {e : Env} {s : State} {m : MethodId} {args : Array Value} {below : List Frame} {meth : Method} {c : Code} {H : Heap} {locs : List Loc} {cells slots : Nat} {Q : State → Prop} {ls : Array Slot} {dC : Nat → ClassId} {dI : Nat → Nat → Nat} {cy : Nat → ClassId} {A : Nat → Prop} {b L : Nat} {xs : Nat → Int32} {x f n sc ia na d ka va o mo : Nat} {ad : Nat → Nat} {G1 G2 : zG} {S1 S2 : zS} {i5 : Nat} {a1 a2 a3 a4 : Int32} (C : zLc p l s m args c dC dI cy A b L xs) (hi5 : i5 + 5 ≤ L) (ha1 : xs (nI (i5 + 1)).toNatClampNeg = a1) (ha2 : xs (nI (i5 + 2)).toNatClampNeg = a2) (ha3 : xs (nI (i5 + 3)).toNatClampNeg = a3) (ha4 : xs (nI (i5 + 4)).toNatClampNeg = a4) (hce : cells + 3 ≤ 601024) (hse : slots + 25 ≤ 7293034) (h : zLw dC dI cy s A x f n sc ia na d ka va o mo ad G1 S1 G2 S2 H locs)
    (hl : lv_has ls 7 [(4, .int (nI i5)), (3, .ref o), (2, .ref mo), (1, .ref x), (0, .ref b)]) (kk : ∀ (G1' : zG) (S1' S2' : zS) (H' : Heap) (locs' : List Loc) (ls' : Array Slot), zLw dC dI cy s A x f n sc ia na d ka va o mo ad G1' S1' G2 S2' H' locs' → lv_has ls' 7 [(4, .int (nI i5)), (3, .ref o), (2, .ref mo), (1, .ref x), (0, .ref b)] → W p l e room_1 s m args below meth c H' locs' (cells + 3) (slots + 25) Q (F0 m 767 ls' [])) : W p l e room_1 s m args below meth c H locs cells slots Q (F0 m 329 ls []) := by
  obtain ⟨⟨hx, hb, hml, hown, hts⟩, ⟨hX, hbl, hbA, hL⟩, hA, hK, hN, hE, hNc, hlt⟩ := C
  obtain ⟨⟨hP1, hD1, hP2, hD2, hAp⟩, hS, hC, hM, hR⟩ := h
  refine lv_aload_n hx hb dL_law_329 rfl (lv_at hl 3 rfl) ?_
  refine lv_aload_n hx hb dL_law_330 rfl (lv_at hl 4 rfl) ?_
  refine lv_iload hx hb dL_law_331 (lv_at hl 0 rfl) ?_
  refine lv_iconst (v := 1) hx hb dL_law_333 (by decide) ?_
  refine lv_iadd hx hb dL_law_334 ?_
  refine lv_topi (fun v1 ev1 => ?_)
  obtain rfl : v1 = nI (i5 + 1) := ev1.trans (nI_add i5 1)
  refine va_sld hx hb hX hbl hbA hS (vp_in_nI (by omega) (by omega)) dL_law_335 ?_
  rw [ha1]
  refine lv_aload_n hx hb dL_law_336 rfl (lv_at hl 4 rfl) ?_
  refine lv_iload hx hb dL_law_337 (lv_at hl 0 rfl) ?_
  refine lv_iconst (v := 2) hx hb dL_law_339 (by decide) ?_
  refine lv_iadd hx hb dL_law_340 ?_
  refine lv_topi (fun v2 ev2 => ?_)
  obtain rfl : v2 = nI (i5 + 2) := ev2.trans (nI_add i5 2)
  refine va_sld hx hb hX hbl hbA hS (vp_in_nI (by omega) (by omega)) dL_law_341 ?_
  rw [ha2]
  refine lv_aload_n hx hb dL_law_342 rfl (lv_at hl 1 rfl) ?_
  refine zc2i (vx_runSW (As := [.ref x, .int a1, .int a2, .ref o]) (rest := []) ⟨hx, hb, hml, hown, hts⟩ (w_L_space l hlt dC dI cy G1 S1 H.size x f n sc ia na d ka va a1 a2 o hC.1 hC.2.1.1 hC.2.1.2) (vx_cwSW 4 hts gL_law_L_space rfl rfl rfl (by decide +kernel) ⟨Nat.le_of_ble_eq_true rfl, Nat.le_of_ble_eq_true rfl⟩) (zpreSy hK hP1 hD1 hN hE hS hA hNc) rfl rfl hl.1 rfl (lv_room (Nat.le_of_ble_eq_true rfl)) dL_law_343 ⟨by show _ ≤ 601024; omega, by show _ ≤ 7293034; omega⟩) hS hD1 hA hP2 hAp (fun k9 T1 H locs hw hP1 hD1 hP2 hAp hS => ?_)
  refine lv_istore (lv' := [(5, .int k9), (4, .int (nI i5)), (3, .ref o), (2, .ref mo), (1, .ref x), (0, .ref b)]) hx hb dL_law_346 hl (by decide) rfl (fun ls hl => ?_)
  refine lv_aload_n hx hb dL_law_348 rfl (lv_at hl 3 rfl) ?_
  refine lv_aload_n hx hb dL_law_349 rfl (lv_at hl 5 rfl) ?_
  refine lv_iload hx hb dL_law_350 (lv_at hl 1 rfl) ?_
  refine lv_iconst (v := 1) hx hb dL_law_352 (by decide) ?_
  refine lv_iadd hx hb dL_law_353 ?_
  refine lv_topi (fun v3 ev3 => ?_)
  obtain rfl : v3 = nI (i5 + 1) := ev3.trans (nI_add i5 1)
  refine va_sld hx hb hX hbl hbA hS (vp_in_nI (by omega) (by omega)) dL_law_354 ?_
  rw [ha1]
  refine lv_aload_n hx hb dL_law_355 rfl (lv_at hl 5 rfl) ?_
  refine lv_iload hx hb dL_law_356 (lv_at hl 1 rfl) ?_
  refine lv_iconst (v := 2) hx hb dL_law_358 (by decide) ?_
  refine lv_iadd hx hb dL_law_359 ?_
  refine lv_topi (fun v4 ev4 => ?_)
  obtain rfl : v4 = nI (i5 + 2) := ev4.trans (nI_add i5 2)
  refine va_sld hx hb hX hbl hbA hS (vp_in_nI (by omega) (by omega)) dL_law_360 ?_
  rw [ha2]
  refine zc2i (va_runV (As := [.int a1, .int a2]) (rest := []) ⟨hx, hb, hml, hown, hts⟩ (c_X7_space l dC dI cy G2 S2 H.size mo ad a1 a2 hM.1 hM.2.1) (cwV 2 hts gL_law_X7_space rfl rfl rfl (by decide +kernel) ⟨Nat.le_of_ble_eq_true rfl, Nat.le_of_ble_eq_true rfl⟩) (zpreV hK hP2 hD2 hN (zrecv7 hK hP2 hM.1.1)) rfl rfl hl.1 rfl (lv_room (Nat.le_of_ble_eq_true rfl)) dL_law_361 ⟨by show _ ≤ 601024; omega, by show _ ≤ 7293034; omega⟩) hS hD2 hA hP1 hAp.symm (fun r2 T2 H locs hm hP2 hD2 hP1 hAp hS => ?_)
  have hAp := hAp.symm
  obtain ⟨hC2, hM2, hR2, he2, ho2⟩ := s_space hC hM hR hw hm
  refine lv_istore (lv' := [(6, .int r2), (5, .int k9), (4, .int (nI i5)), (3, .ref o), (2, .ref mo), (1, .ref x), (0, .ref b)]) hx hb dL_law_364 hl (by decide) rfl (fun ls hl => ?_)
  refine lv_goto (tgt := 767) hx hb dL_law_366 (by decide) ?_
  refine W.widen (k := cells + 3) (n := slots + 25) (by omega) (by omega) ?_
  exact kk _ _ _ _ _ _ ⟨⟨hP1, hD1, hP2, hD2, hAp⟩, hS, hC2, hM2, hR2⟩ (lv_sub hl [2, 3, 4, 5, 6] rfl)
set_option maxHeartbeats 4000000 in
set_option maxRecDepth 100000 in
theorem q_slot {p : Program} {l : Launch} {e : Env} {s : State} {m : MethodId} {args : Array Value} {below : List Frame} {meth : Method} {c : Code} {H : Heap} {locs : List Loc} {cells slots : Nat} {Q : State → Prop} {ls : Array Slot} {dC : Nat → ClassId} {dI : Nat → Nat → Nat} {cy : Nat → ClassId} {A : Nat → Prop} {b L : Nat} {xs : Nat → Int32} {x f n sc ia na d ka va o mo : Nat} {ad : Nat → Nat} {G1 G2 : zG} {S1 S2 : zS} {i5 : Nat} {a1 a2 a3 a4 : Int32} (C : zLc p l s m args c dC dI cy A b L xs) (hi5 : i5 + 5 ≤ L) (ha1 : xs (nI (i5 + 1)).toNatClampNeg = a1) (ha2 : xs (nI (i5 + 2)).toNatClampNeg = a2) (ha3 : xs (nI (i5 + 3)).toNatClampNeg = a3) (ha4 : xs (nI (i5 + 4)).toNatClampNeg = a4) (hce : cells + 3 ≤ 601024) (hse : slots + 25 ≤ 7293034) (h : zLw dC dI cy s A x f n sc ia na d ka va o mo ad G1 S1 G2 S2 H locs)
    (hl : lv_has ls 7 [(4, .int (nI i5)), (3, .ref o), (2, .ref mo), (1, .ref x), (0, .ref b)]) (kk : ∀ (G1' : zG) (S1' S2' : zS) (H' : Heap) (locs' : List Loc) (ls' : Array Slot), zLw dC dI cy s A x f n sc ia na d ka va o mo ad G1' S1' G2 S2' H' locs' → lv_has ls' 7 [(4, .int (nI i5)), (3, .ref o), (2, .ref mo), (1, .ref x), (0, .ref b)] → W p l e room_1 s m args below meth c H' locs' (cells + 3) (slots + 25) Q (F0 m 767 ls' [])) : W p l e room_1 s m args below meth c H locs cells slots Q (F0 m 369 ls []) := by
  obtain ⟨⟨hx, hb, hml, hown, hts⟩, ⟨hX, hbl, hbA, hL⟩, hA, hK, hN, hE, hNc, hlt⟩ := C
  obtain ⟨⟨hP1, hD1, hP2, hD2, hAp⟩, hS, hC, hM, hR⟩ := h
  have hsl : ∃ q, q ≤ 16 ∧ S1.1 sc 2 = nI q := by rw [hR.2.1]; exact hM.2.1.2.1
  refine lv_aload_n hx hb dL_law_369 rfl (lv_at hl 3 rfl) ?_
  refine lv_aload_n hx hb dL_law_370 rfl (lv_at hl 4 rfl) ?_
  refine lv_iload hx hb dL_law_371 (lv_at hl 0 rfl) ?_
  refine lv_iconst (v := 1) hx hb dL_law_373 (by decide) ?_
  refine lv_iadd hx hb dL_law_374 ?_
  refine lv_topi (fun v1 ev1 => ?_)
  obtain rfl : v1 = nI (i5 + 1) := ev1.trans (nI_add i5 1)
  refine va_sld hx hb hX hbl hbA hS (vp_in_nI (by omega) (by omega)) dL_law_375 ?_
  rw [ha1]
  refine lv_aload_n hx hb dL_law_376 rfl (lv_at hl 4 rfl) ?_
  refine lv_iload hx hb dL_law_377 (lv_at hl 0 rfl) ?_
  refine lv_iconst (v := 2) hx hb dL_law_379 (by decide) ?_
  refine lv_iadd hx hb dL_law_380 ?_
  refine lv_topi (fun v2 ev2 => ?_)
  obtain rfl : v2 = nI (i5 + 2) := ev2.trans (nI_add i5 2)
  refine va_sld hx hb hX hbl hbA hS (vp_in_nI (by omega) (by omega)) dL_law_381 ?_
  rw [ha2]
  refine lv_aload_n hx hb dL_law_382 rfl (lv_at hl 1 rfl) ?_
  refine zc2i (vx_runSW (As := [.ref x, .int a1, .int a2, .ref o]) (rest := []) ⟨hx, hb, hml, hown, hts⟩ (w_L_slot l hlt dC dI cy G1 S1 H.size x f n sc ia na d ka va a1 a2 o hC.1 hsl hC.2.1.1 hC.2.1.2) (vx_cwSW 4 hts gL_law_L_slot rfl rfl rfl (by decide +kernel) ⟨Nat.le_of_ble_eq_true rfl, Nat.le_of_ble_eq_true rfl⟩) (zpreSy hK hP1 hD1 hN hE hS hA hNc) rfl rfl hl.1 rfl (lv_room (Nat.le_of_ble_eq_true rfl)) dL_law_383 ⟨by show _ ≤ 601024; omega, by show _ ≤ 7293034; omega⟩) hS hD1 hA hP2 hAp (fun k9 T1 H locs hw hP1 hD1 hP2 hAp hS => ?_)
  refine lv_istore (lv' := [(5, .int k9), (4, .int (nI i5)), (3, .ref o), (2, .ref mo), (1, .ref x), (0, .ref b)]) hx hb dL_law_386 hl (by decide) rfl (fun ls hl => ?_)
  refine lv_aload_n hx hb dL_law_388 rfl (lv_at hl 3 rfl) ?_
  refine lv_aload_n hx hb dL_law_389 rfl (lv_at hl 5 rfl) ?_
  refine lv_iload hx hb dL_law_390 (lv_at hl 1 rfl) ?_
  refine lv_iconst (v := 1) hx hb dL_law_392 (by decide) ?_
  refine lv_iadd hx hb dL_law_393 ?_
  refine lv_topi (fun v3 ev3 => ?_)
  obtain rfl : v3 = nI (i5 + 1) := ev3.trans (nI_add i5 1)
  refine va_sld hx hb hX hbl hbA hS (vp_in_nI (by omega) (by omega)) dL_law_394 ?_
  rw [ha1]
  refine lv_aload_n hx hb dL_law_395 rfl (lv_at hl 5 rfl) ?_
  refine lv_iload hx hb dL_law_396 (lv_at hl 1 rfl) ?_
  refine lv_iconst (v := 2) hx hb dL_law_398 (by decide) ?_
  refine lv_iadd hx hb dL_law_399 ?_
  refine lv_topi (fun v4 ev4 => ?_)
  obtain rfl : v4 = nI (i5 + 2) := ev4.trans (nI_add i5 2)
  refine va_sld hx hb hX hbl hbA hS (vp_in_nI (by omega) (by omega)) dL_law_400 ?_
  rw [ha2]
  refine zc2i (va_runV (As := [.int a1, .int a2]) (rest := []) ⟨hx, hb, hml, hown, hts⟩ (c_X7_slot l dC dI cy G2 S2 H.size mo ad a1 a2 hM.1 hM.2.1) (cwV 2 hts gL_law_X7_slot rfl rfl rfl (by decide +kernel) ⟨Nat.le_of_ble_eq_true rfl, Nat.le_of_ble_eq_true rfl⟩) (zpreV hK hP2 hD2 hN (zrecv7 hK hP2 hM.1.1)) rfl rfl hl.1 rfl (lv_room (Nat.le_of_ble_eq_true rfl)) dL_law_401 ⟨by show _ ≤ 601024; omega, by show _ ≤ 7293034; omega⟩) hS hD2 hA hP1 hAp.symm (fun r2 T2 H locs hm hP2 hD2 hP1 hAp hS => ?_)
  have hAp := hAp.symm
  obtain ⟨hC2, hM2, hR2, he2, ho2⟩ := s_slot hC hM hR hw hm
  refine lv_istore (lv' := [(6, .int r2), (5, .int k9), (4, .int (nI i5)), (3, .ref o), (2, .ref mo), (1, .ref x), (0, .ref b)]) hx hb dL_law_404 hl (by decide) rfl (fun ls hl => ?_)
  refine lv_goto (tgt := 767) hx hb dL_law_406 (by decide) ?_
  refine W.widen (k := cells + 3) (n := slots + 25) (by omega) (by omega) ?_
  exact kk _ _ _ _ _ _ ⟨⟨hP1, hD1, hP2, hD2, hAp⟩, hS, hC2, hM2, hR2⟩ (lv_sub hl [2, 3, 4, 5, 6] rfl)
set_option maxHeartbeats 4000000 in
set_option maxRecDepth 100000 in
theorem q_write {p : Program} {l : Launch} {e : Env} {s : State} {m : MethodId} {args : Array Value} {below : List Frame} {meth : Method} {c : Code} {H : Heap} {locs : List Loc} {cells slots : Nat} {Q : State → Prop} {ls : Array Slot} {dC : Nat → ClassId} {dI : Nat → Nat → Nat} {cy : Nat → ClassId} {A : Nat → Prop} {b L : Nat} {xs : Nat → Int32} {x f n sc ia na d ka va o mo : Nat} {ad : Nat → Nat} {G1 G2 : zG} {S1 S2 : zS} {i5 : Nat} {a1 a2 a3 a4 : Int32} (C : zLc p l s m args c dC dI cy A b L xs) (hi5 : i5 + 5 ≤ L) (ha1 : xs (nI (i5 + 1)).toNatClampNeg = a1) (ha2 : xs (nI (i5 + 2)).toNatClampNeg = a2) (ha3 : xs (nI (i5 + 3)).toNatClampNeg = a3) (ha4 : xs (nI (i5 + 4)).toNatClampNeg = a4) (hce : cells + 3 ≤ 601024) (hse : slots + 25 ≤ 7293034) (h : zLw dC dI cy s A x f n sc ia na d ka va o mo ad G1 S1 G2 S2 H locs)
    (hl : lv_has ls 7 [(4, .int (nI i5)), (3, .ref o), (2, .ref mo), (1, .ref x), (0, .ref b)]) (kk : ∀ (G1' : zG) (S1' S2' : zS) (H' : Heap) (locs' : List Loc) (ls' : Array Slot), zLw dC dI cy s A x f n sc ia na d ka va o mo ad G1' S1' G2 S2' H' locs' → lv_has ls' 7 [(4, .int (nI i5)), (3, .ref o), (2, .ref mo), (1, .ref x), (0, .ref b)] → W p l e room_1 s m args below meth c H' locs' (cells + 3) (slots + 25) Q (F0 m 767 ls' [])) : W p l e room_1 s m args below meth c H locs cells slots Q (F0 m 409 ls []) := by
  obtain ⟨⟨hx, hb, hml, hown, hts⟩, ⟨hX, hbl, hbA, hL⟩, hA, hK, hN, hE, hNc, hlt⟩ := C
  obtain ⟨⟨hP1, hD1, hP2, hD2, hAp⟩, hS, hC, hM, hR⟩ := h
  refine lv_aload_n hx hb dL_law_409 rfl (lv_at hl 3 rfl) ?_
  refine lv_aload_n hx hb dL_law_410 rfl (lv_at hl 4 rfl) ?_
  refine lv_iload hx hb dL_law_411 (lv_at hl 0 rfl) ?_
  refine lv_iconst (v := 1) hx hb dL_law_413 (by decide) ?_
  refine lv_iadd hx hb dL_law_414 ?_
  refine lv_topi (fun v1 ev1 => ?_)
  obtain rfl : v1 = nI (i5 + 1) := ev1.trans (nI_add i5 1)
  refine va_sld hx hb hX hbl hbA hS (vp_in_nI (by omega) (by omega)) dL_law_415 ?_
  rw [ha1]
  refine lv_aload_n hx hb dL_law_416 rfl (lv_at hl 4 rfl) ?_
  refine lv_iload hx hb dL_law_417 (lv_at hl 0 rfl) ?_
  refine lv_iconst (v := 2) hx hb dL_law_419 (by decide) ?_
  refine lv_iadd hx hb dL_law_420 ?_
  refine lv_topi (fun v2 ev2 => ?_)
  obtain rfl : v2 = nI (i5 + 2) := ev2.trans (nI_add i5 2)
  refine va_sld hx hb hX hbl hbA hS (vp_in_nI (by omega) (by omega)) dL_law_421 ?_
  rw [ha2]
  refine lv_aload_n hx hb dL_law_422 rfl (lv_at hl 4 rfl) ?_
  refine lv_iload hx hb dL_law_423 (lv_at hl 0 rfl) ?_
  refine lv_iconst (v := 3) hx hb dL_law_425 (by decide) ?_
  refine lv_iadd hx hb dL_law_426 ?_
  refine lv_topi (fun v3 ev3 => ?_)
  obtain rfl : v3 = nI (i5 + 3) := ev3.trans (nI_add i5 3)
  refine va_sld hx hb hX hbl hbA hS (vp_in_nI (by omega) (by omega)) dL_law_427 ?_
  rw [ha3]
  refine lv_aload_n hx hb dL_law_428 rfl (lv_at hl 1 rfl) ?_
  refine zc2i (vx_runSW (As := [.ref x, .int a1, .int a2, .int a3, .ref o]) (rest := []) ⟨hx, hb, hml, hown, hts⟩ (w_L_write l hlt dC dI cy G1 S1 H.size x f n sc ia na d ka va a1 a2 a3 o hC.1 hC.2.1.1 hC.2.1.2) (vx_cwSW 5 hts gL_law_L_write rfl rfl rfl (by decide +kernel) ⟨Nat.le_of_ble_eq_true rfl, Nat.le_of_ble_eq_true rfl⟩) (zpreSy hK hP1 hD1 hN hE hS hA hNc) rfl rfl hl.1 rfl (lv_room (Nat.le_of_ble_eq_true rfl)) dL_law_429 ⟨by show _ ≤ 601024; omega, by show _ ≤ 7293034; omega⟩) hS hD1 hA hP2 hAp (fun k9 T1 H locs hw hP1 hD1 hP2 hAp hS => ?_)
  refine lv_istore (lv' := [(5, .int k9), (4, .int (nI i5)), (3, .ref o), (2, .ref mo), (1, .ref x), (0, .ref b)]) hx hb dL_law_432 hl (by decide) rfl (fun ls hl => ?_)
  refine lv_aload_n hx hb dL_law_434 rfl (lv_at hl 3 rfl) ?_
  refine lv_aload_n hx hb dL_law_435 rfl (lv_at hl 5 rfl) ?_
  refine lv_iload hx hb dL_law_436 (lv_at hl 1 rfl) ?_
  refine lv_iconst (v := 1) hx hb dL_law_438 (by decide) ?_
  refine lv_iadd hx hb dL_law_439 ?_
  refine lv_topi (fun v4 ev4 => ?_)
  obtain rfl : v4 = nI (i5 + 1) := ev4.trans (nI_add i5 1)
  refine va_sld hx hb hX hbl hbA hS (vp_in_nI (by omega) (by omega)) dL_law_440 ?_
  rw [ha1]
  refine lv_aload_n hx hb dL_law_441 rfl (lv_at hl 5 rfl) ?_
  refine lv_iload hx hb dL_law_442 (lv_at hl 1 rfl) ?_
  refine lv_iconst (v := 2) hx hb dL_law_444 (by decide) ?_
  refine lv_iadd hx hb dL_law_445 ?_
  refine lv_topi (fun v5 ev5 => ?_)
  obtain rfl : v5 = nI (i5 + 2) := ev5.trans (nI_add i5 2)
  refine va_sld hx hb hX hbl hbA hS (vp_in_nI (by omega) (by omega)) dL_law_446 ?_
  rw [ha2]
  refine lv_aload_n hx hb dL_law_447 rfl (lv_at hl 5 rfl) ?_
  refine lv_iload hx hb dL_law_448 (lv_at hl 1 rfl) ?_
  refine lv_iconst (v := 3) hx hb dL_law_450 (by decide) ?_
  refine lv_iadd hx hb dL_law_451 ?_
  refine lv_topi (fun v6 ev6 => ?_)
  obtain rfl : v6 = nI (i5 + 3) := ev6.trans (nI_add i5 3)
  refine va_sld hx hb hX hbl hbA hS (vp_in_nI (by omega) (by omega)) dL_law_452 ?_
  rw [ha3]
  refine zc2i (va_runV (As := [.int a1, .int a2, .int a3]) (rest := []) ⟨hx, hb, hml, hown, hts⟩ (c_X7_write l dC dI cy G2 S2 H.size mo ad a1 a2 a3 hM.1 hM.2.1) (cwV 3 hts gL_law_X7_write rfl rfl rfl (by decide +kernel) ⟨Nat.le_of_ble_eq_true rfl, Nat.le_of_ble_eq_true rfl⟩) (zpreV hK hP2 hD2 hN (zrecv7 hK hP2 hM.1.1)) rfl rfl hl.1 rfl (lv_room (Nat.le_of_ble_eq_true rfl)) dL_law_453 ⟨by show _ ≤ 601024; omega, by show _ ≤ 7293034; omega⟩) hS hD2 hA hP1 hAp.symm (fun r2 T2 H locs hm hP2 hD2 hP1 hAp hS => ?_)
  have hAp := hAp.symm
  obtain ⟨hC2, hv2⟩ := k_write (id := a1) (b := a2) (v := a3) hC hw
  obtain ⟨hM2, hu2⟩ := m_write hM hm
  have hR2 := hR.vw hv2 hu2
  refine lv_istore (lv' := [(6, .int r2), (5, .int k9), (4, .int (nI i5)), (3, .ref o), (2, .ref mo), (1, .ref x), (0, .ref b)]) hx hb dL_law_456 hl (by decide) rfl (fun ls hl => ?_)
  refine lv_goto (tgt := 767) hx hb dL_law_458 (by decide) ?_
  refine W.widen (k := cells + 3) (n := slots + 25) (by omega) (by omega) ?_
  exact kk _ _ _ _ _ _ ⟨⟨hP1, hD1, hP2, hD2, hAp⟩, hS, hC2, hM2, hR2⟩ (lv_sub hl [2, 3, 4, 5, 6] rfl)
set_option maxHeartbeats 4000000 in
set_option maxRecDepth 100000 in
theorem q_disturb {p : Program} {l : Launch} {e : Env} {s : State} {m : MethodId} {args : Array Value} {below : List Frame} {meth : Method} {c : Code} {H : Heap} {locs : List Loc} {cells slots : Nat} {Q : State → Prop} {ls : Array Slot} {dC : Nat → ClassId} {dI : Nat → Nat → Nat} {cy : Nat → ClassId} {A : Nat → Prop} {b L : Nat} {xs : Nat → Int32} {x f n sc ia na d ka va o mo : Nat} {ad : Nat → Nat} {G1 G2 : zG} {S1 S2 : zS} {i5 : Nat} {a1 a2 a3 a4 : Int32} (C : zLc p l s m args c dC dI cy A b L xs) (hi5 : i5 + 5 ≤ L) (ha1 : xs (nI (i5 + 1)).toNatClampNeg = a1) (ha2 : xs (nI (i5 + 2)).toNatClampNeg = a2) (ha3 : xs (nI (i5 + 3)).toNatClampNeg = a3) (ha4 : xs (nI (i5 + 4)).toNatClampNeg = a4) (hce : cells + 3 ≤ 601024) (hse : slots + 25 ≤ 7293034) (h : zLw dC dI cy s A x f n sc ia na d ka va o mo ad G1 S1 G2 S2 H locs)
    (hl : lv_has ls 7 [(4, .int (nI i5)), (3, .ref o), (2, .ref mo), (1, .ref x), (0, .ref b)]) (kk : ∀ (G1' : zG) (S1' S2' : zS) (H' : Heap) (locs' : List Loc) (ls' : Array Slot), zLw dC dI cy s A x f n sc ia na d ka va o mo ad G1' S1' G2 S2' H' locs' → lv_has ls' 7 [(4, .int (nI i5)), (3, .ref o), (2, .ref mo), (1, .ref x), (0, .ref b)] → W p l e room_1 s m args below meth c H' locs' (cells + 3) (slots + 25) Q (F0 m 767 ls' [])) : W p l e room_1 s m args below meth c H locs cells slots Q (F0 m 461 ls []) := by
  obtain ⟨⟨hx, hb, hml, hown, hts⟩, ⟨hX, hbl, hbA, hL⟩, hA, hK, hN, hE, hNc, hlt⟩ := C
  obtain ⟨⟨hP1, hD1, hP2, hD2, hAp⟩, hS, hC, hM, hR⟩ := h
  refine lv_aload_n hx hb dL_law_461 rfl (lv_at hl 3 rfl) ?_
  refine lv_aload_n hx hb dL_law_462 rfl (lv_at hl 4 rfl) ?_
  refine lv_iload hx hb dL_law_463 (lv_at hl 0 rfl) ?_
  refine lv_iconst (v := 1) hx hb dL_law_465 (by decide) ?_
  refine lv_iadd hx hb dL_law_466 ?_
  refine lv_topi (fun v1 ev1 => ?_)
  obtain rfl : v1 = nI (i5 + 1) := ev1.trans (nI_add i5 1)
  refine va_sld hx hb hX hbl hbA hS (vp_in_nI (by omega) (by omega)) dL_law_467 ?_
  rw [ha1]
  refine lv_aload_n hx hb dL_law_468 rfl (lv_at hl 4 rfl) ?_
  refine lv_iload hx hb dL_law_469 (lv_at hl 0 rfl) ?_
  refine lv_iconst (v := 2) hx hb dL_law_471 (by decide) ?_
  refine lv_iadd hx hb dL_law_472 ?_
  refine lv_topi (fun v2 ev2 => ?_)
  obtain rfl : v2 = nI (i5 + 2) := ev2.trans (nI_add i5 2)
  refine va_sld hx hb hX hbl hbA hS (vp_in_nI (by omega) (by omega)) dL_law_473 ?_
  rw [ha2]
  refine zc2i (vx_runSW (As := [.ref x, .int a1, .int a2]) (rest := []) ⟨hx, hb, hml, hown, hts⟩ (w_L_disturb l hlt dC dI cy G1 S1 H.size x f n sc ia na d ka va a1 a2 hC.1) (vx_cwSW 3 hts gL_law_L_disturb rfl rfl rfl (by decide +kernel) ⟨Nat.le_of_ble_eq_true rfl, Nat.le_of_ble_eq_true rfl⟩) (zpreSy hK hP1 hD1 hN hE hS hA hNc) rfl rfl hl.1 rfl (lv_room (Nat.le_of_ble_eq_true rfl)) dL_law_474 ⟨by show _ ≤ 601024; omega, by show _ ≤ 7293034; omega⟩) hS hD1 hA hP2 hAp (fun k9 T1 H locs hw hP1 hD1 hP2 hAp hS => ?_)
  refine lv_istore (lv' := [(5, .int k9), (4, .int (nI i5)), (3, .ref o), (2, .ref mo), (1, .ref x), (0, .ref b)]) hx hb dL_law_477 hl (by decide) rfl (fun ls hl => ?_)
  refine lv_aload_n hx hb dL_law_479 rfl (lv_at hl 3 rfl) ?_
  refine lv_aload_n hx hb dL_law_480 rfl (lv_at hl 5 rfl) ?_
  refine lv_iload hx hb dL_law_481 (lv_at hl 1 rfl) ?_
  refine lv_iconst (v := 1) hx hb dL_law_483 (by decide) ?_
  refine lv_iadd hx hb dL_law_484 ?_
  refine lv_topi (fun v3 ev3 => ?_)
  obtain rfl : v3 = nI (i5 + 1) := ev3.trans (nI_add i5 1)
  refine va_sld hx hb hX hbl hbA hS (vp_in_nI (by omega) (by omega)) dL_law_485 ?_
  rw [ha1]
  refine lv_aload_n hx hb dL_law_486 rfl (lv_at hl 5 rfl) ?_
  refine lv_iload hx hb dL_law_487 (lv_at hl 1 rfl) ?_
  refine lv_iconst (v := 2) hx hb dL_law_489 (by decide) ?_
  refine lv_iadd hx hb dL_law_490 ?_
  refine lv_topi (fun v4 ev4 => ?_)
  obtain rfl : v4 = nI (i5 + 2) := ev4.trans (nI_add i5 2)
  refine va_sld hx hb hX hbl hbA hS (vp_in_nI (by omega) (by omega)) dL_law_491 ?_
  rw [ha2]
  refine zc2v (va_runV (As := [.int a1, .int a2]) (rest := []) ⟨hx, hb, hml, hown, hts⟩ (c_X7_disturb l dC dI cy G2 S2 H.size mo ad a1 a2 hM.1 hM.2.1) (cwV 2 hts gL_law_X7_disturb rfl rfl rfl (by decide +kernel) ⟨Nat.le_of_ble_eq_true rfl, Nat.le_of_ble_eq_true rfl⟩) (zpreV hK hP2 hD2 hN (zrecv7 hK hP2 hM.1.1)) rfl rfl hl.1 rfl (lv_room (Nat.le_of_ble_eq_true rfl)) dL_law_492 ⟨by show _ ≤ 601024; omega, by show _ ≤ 7293034; omega⟩) hS hD2 hA hP1 hAp.symm (fun T2 H locs hm hP2 hD2 hP1 hAp hS => ?_)
  have hAp := hAp.symm
  obtain ⟨hC2, hv2⟩ := k_disturb (b := a1) (v := a2) hC hw
  obtain ⟨hM2, hu2⟩ := m_disturb hM hm
  have hR2 := hR.vw hv2 hu2
  refine lv_goto (tgt := 767) hx hb dL_law_495 (by decide) ?_
  refine W.widen (k := cells + 3) (n := slots + 25) (by omega) (by omega) ?_
  exact kk _ _ _ _ _ _ ⟨⟨hP1, hD1, hP2, hD2, hAp⟩, hS, hC2, hM2, hR2⟩ (lv_sub hl [1, 2, 3, 4, 5] rfl)
set_option maxHeartbeats 4000000 in
set_option maxRecDepth 100000 in
theorem q_wake {p : Program} {l : Launch} {e : Env} {s : State} {m : MethodId} {args : Array Value} {below : List Frame} {meth : Method} {c : Code} {H : Heap} {locs : List Loc} {cells slots : Nat} {Q : State → Prop} {ls : Array Slot} {dC : Nat → ClassId} {dI : Nat → Nat → Nat} {cy : Nat → ClassId} {A : Nat → Prop} {b L : Nat} {xs : Nat → Int32} {x f n sc ia na d ka va o mo : Nat} {ad : Nat → Nat} {G1 G2 : zG} {S1 S2 : zS} {i5 : Nat} {a1 a2 a3 a4 : Int32} (C : zLc p l s m args c dC dI cy A b L xs) (hi5 : i5 + 5 ≤ L) (ha1 : xs (nI (i5 + 1)).toNatClampNeg = a1) (ha2 : xs (nI (i5 + 2)).toNatClampNeg = a2) (ha3 : xs (nI (i5 + 3)).toNatClampNeg = a3) (ha4 : xs (nI (i5 + 4)).toNatClampNeg = a4) (hce : cells + 3 ≤ 601024) (hse : slots + 25 ≤ 7293034) (h : zLw dC dI cy s A x f n sc ia na d ka va o mo ad G1 S1 G2 S2 H locs)
    (hl : lv_has ls 7 [(4, .int (nI i5)), (3, .ref o), (2, .ref mo), (1, .ref x), (0, .ref b)]) (kk : ∀ (G1' : zG) (S1' S2' : zS) (H' : Heap) (locs' : List Loc) (ls' : Array Slot), zLw dC dI cy s A x f n sc ia na d ka va o mo ad G1' S1' G2 S2' H' locs' → lv_has ls' 7 [(4, .int (nI i5)), (3, .ref o), (2, .ref mo), (1, .ref x), (0, .ref b)] → W p l e room_1 s m args below meth c H' locs' (cells + 3) (slots + 25) Q (F0 m 767 ls' [])) : W p l e room_1 s m args below meth c H locs cells slots Q (F0 m 498 ls []) := by
  obtain ⟨⟨hx, hb, hml, hown, hts⟩, ⟨hX, hbl, hbA, hL⟩, hA, hK, hN, hE, hNc, hlt⟩ := C
  obtain ⟨⟨hP1, hD1, hP2, hD2, hAp⟩, hS, hC, hM, hR⟩ := h
  refine lv_aload_n hx hb dL_law_498 rfl (lv_at hl 3 rfl) ?_
  refine lv_aload_n hx hb dL_law_499 rfl (lv_at hl 4 rfl) ?_
  refine lv_iload hx hb dL_law_500 (lv_at hl 0 rfl) ?_
  refine lv_iconst (v := 1) hx hb dL_law_502 (by decide) ?_
  refine lv_iadd hx hb dL_law_503 ?_
  refine lv_topi (fun v1 ev1 => ?_)
  obtain rfl : v1 = nI (i5 + 1) := ev1.trans (nI_add i5 1)
  refine va_sld hx hb hX hbl hbA hS (vp_in_nI (by omega) (by omega)) dL_law_504 ?_
  rw [ha1]
  refine zc2i (vx_runSW (As := [.ref x, .int a1]) (rest := []) ⟨hx, hb, hml, hown, hts⟩ (w_L_wake l hlt dC dI cy G1 S1 H.size x f n sc ia na d ka va a1 hC.1) (vx_cwSW 2 hts gL_law_L_wake rfl rfl rfl (by decide +kernel) ⟨Nat.le_of_ble_eq_true rfl, Nat.le_of_ble_eq_true rfl⟩) (zpreSy hK hP1 hD1 hN hE hS hA hNc) rfl rfl hl.1 rfl (lv_room (Nat.le_of_ble_eq_true rfl)) dL_law_505 ⟨by show _ ≤ 601024; omega, by show _ ≤ 7293034; omega⟩) hS hD1 hA hP2 hAp (fun k9 T1 H locs hw hP1 hD1 hP2 hAp hS => ?_)
  refine lv_istore (lv' := [(5, .int k9), (4, .int (nI i5)), (3, .ref o), (2, .ref mo), (1, .ref x), (0, .ref b)]) hx hb dL_law_508 hl (by decide) rfl (fun ls hl => ?_)
  refine lv_aload_n hx hb dL_law_510 rfl (lv_at hl 3 rfl) ?_
  refine lv_aload_n hx hb dL_law_511 rfl (lv_at hl 5 rfl) ?_
  refine lv_iload hx hb dL_law_512 (lv_at hl 1 rfl) ?_
  refine lv_iconst (v := 1) hx hb dL_law_514 (by decide) ?_
  refine lv_iadd hx hb dL_law_515 ?_
  refine lv_topi (fun v2 ev2 => ?_)
  obtain rfl : v2 = nI (i5 + 1) := ev2.trans (nI_add i5 1)
  refine va_sld hx hb hX hbl hbA hS (vp_in_nI (by omega) (by omega)) dL_law_516 ?_
  rw [ha1]
  refine zc2v (va_runV (As := [.int a1]) (rest := []) ⟨hx, hb, hml, hown, hts⟩ (c_X7_wake l dC dI cy G2 S2 H.size mo ad a1 hM.1 hM.2.1) (cwV 1 hts gL_law_X7_wake rfl rfl rfl (by decide +kernel) ⟨Nat.le_of_ble_eq_true rfl, Nat.le_of_ble_eq_true rfl⟩) (zpreV hK hP2 hD2 hN (zrecv7 hK hP2 hM.1.1)) rfl rfl hl.1 rfl (lv_room (Nat.le_of_ble_eq_true rfl)) dL_law_517 ⟨by show _ ≤ 601024; omega, by show _ ≤ 7293034; omega⟩) hS hD2 hA hP1 hAp.symm (fun T2 H locs hm hP2 hD2 hP1 hAp hS => ?_)
  have hAp := hAp.symm
  obtain ⟨hC2, hM2, hR2, he2⟩ := s_wake hC hM hR hw hm
  refine lv_goto (tgt := 767) hx hb dL_law_520 (by decide) ?_
  refine W.widen (k := cells + 3) (n := slots + 25) (by omega) (by omega) ?_
  exact kk _ _ _ _ _ _ ⟨⟨hP1, hD1, hP2, hD2, hAp⟩, hS, hC2, hM2, hR2⟩ (lv_sub hl [1, 2, 3, 4, 5] rfl)
set_option maxHeartbeats 4000000 in
set_option maxRecDepth 100000 in
theorem q_run {p : Program} {l : Launch} {e : Env} {s : State} {m : MethodId} {args : Array Value} {below : List Frame} {meth : Method} {c : Code} {H : Heap} {locs : List Loc} {cells slots : Nat} {Q : State → Prop} {ls : Array Slot} {dC : Nat → ClassId} {dI : Nat → Nat → Nat} {cy : Nat → ClassId} {A : Nat → Prop} {b L : Nat} {xs : Nat → Int32} {x f n sc ia na d ka va o mo : Nat} {ad : Nat → Nat} {G1 G2 : zG} {S1 S2 : zS} {i5 : Nat} {a1 a2 a3 a4 : Int32} (C : zLc p l s m args c dC dI cy A b L xs) (hi5 : i5 + 5 ≤ L) (ha1 : xs (nI (i5 + 1)).toNatClampNeg = a1) (ha2 : xs (nI (i5 + 2)).toNatClampNeg = a2) (ha3 : xs (nI (i5 + 3)).toNatClampNeg = a3) (ha4 : xs (nI (i5 + 4)).toNatClampNeg = a4) (hce : cells + 3 ≤ 601024) (hse : slots + 25 ≤ 7293034) (h : zLw dC dI cy s A x f n sc ia na d ka va o mo ad G1 S1 G2 S2 H locs)
    (hl : lv_has ls 7 [(4, .int (nI i5)), (3, .ref o), (2, .ref mo), (1, .ref x), (0, .ref b)]) (kk : ∀ (G1' : zG) (S1' S2' : zS) (H' : Heap) (locs' : List Loc) (ls' : Array Slot), zLw dC dI cy s A x f n sc ia na d ka va o mo ad G1' S1' G2 S2' H' locs' → lv_has ls' 7 [(4, .int (nI i5)), (3, .ref o), (2, .ref mo), (1, .ref x), (0, .ref b)] → W p l e room_1 s m args below meth c H' locs' (cells + 3) (slots + 25) Q (F0 m 767 ls' [])) : W p l e room_1 s m args below meth c H locs cells slots Q (F0 m 523 ls []) := by
  obtain ⟨⟨hx, hb, hml, hown, hts⟩, ⟨hX, hbl, hbA, hL⟩, hA, hK, hN, hE, hNc, hlt⟩ := C
  obtain ⟨⟨hP1, hD1, hP2, hD2, hAp⟩, hS, hC, hM, hR⟩ := h
  refine lv_aload_n hx hb dL_law_523 rfl (lv_at hl 3 rfl) ?_
  refine lv_aload_n hx hb dL_law_524 rfl (lv_at hl 4 rfl) ?_
  refine lv_iload hx hb dL_law_525 (lv_at hl 0 rfl) ?_
  refine lv_iconst (v := 1) hx hb dL_law_527 (by decide) ?_
  refine lv_iadd hx hb dL_law_528 ?_
  refine lv_topi (fun v1 ev1 => ?_)
  obtain rfl : v1 = nI (i5 + 1) := ev1.trans (nI_add i5 1)
  refine va_sld hx hb hX hbl hbA hS (vp_in_nI (by omega) (by omega)) dL_law_529 ?_
  rw [ha1]
  refine lv_aload_n hx hb dL_law_530 rfl (lv_at hl 1 rfl) ?_
  refine zc2i (vx_runSW (As := [.ref x, .int a1, .ref o]) (rest := []) ⟨hx, hb, hml, hown, hts⟩ (w_L_run l hlt dC dI cy G1 S1 H.size x f n sc ia na d ka va a1 o hC.1 hC.2.1.1 hC.2.1.2) (vx_cwSW 3 hts gL_law_L_run rfl rfl rfl (by decide +kernel) ⟨Nat.le_of_ble_eq_true rfl, Nat.le_of_ble_eq_true rfl⟩) (zpreSy hK hP1 hD1 hN hE hS hA hNc) rfl rfl hl.1 rfl (lv_room (Nat.le_of_ble_eq_true rfl)) dL_law_531 ⟨by show _ ≤ 601024; omega, by show _ ≤ 7293034; omega⟩) hS hD1 hA hP2 hAp (fun k9 T1 H locs hw hP1 hD1 hP2 hAp hS => ?_)
  refine lv_istore (lv' := [(5, .int k9), (4, .int (nI i5)), (3, .ref o), (2, .ref mo), (1, .ref x), (0, .ref b)]) hx hb dL_law_534 hl (by decide) rfl (fun ls hl => ?_)
  refine lv_aload_n hx hb dL_law_536 rfl (lv_at hl 3 rfl) ?_
  refine lv_aload_n hx hb dL_law_537 rfl (lv_at hl 5 rfl) ?_
  refine lv_iload hx hb dL_law_538 (lv_at hl 1 rfl) ?_
  refine lv_iconst (v := 1) hx hb dL_law_540 (by decide) ?_
  refine lv_iadd hx hb dL_law_541 ?_
  refine lv_topi (fun v2 ev2 => ?_)
  obtain rfl : v2 = nI (i5 + 1) := ev2.trans (nI_add i5 1)
  refine va_sld hx hb hX hbl hbA hS (vp_in_nI (by omega) (by omega)) dL_law_542 ?_
  rw [ha1]
  refine zc2i (va_runV (As := [.int a1]) (rest := []) ⟨hx, hb, hml, hown, hts⟩ (c_X7_run l dC dI cy G2 S2 H.size mo ad a1 hM.1 hM.2.1) (cwV 1 hts gL_law_X7_run rfl rfl rfl (by decide +kernel) ⟨Nat.le_of_ble_eq_true rfl, Nat.le_of_ble_eq_true rfl⟩) (zpreV hK hP2 hD2 hN (zrecv7 hK hP2 hM.1.1)) rfl rfl hl.1 rfl (lv_room (Nat.le_of_ble_eq_true rfl)) dL_law_543 ⟨by show _ ≤ 601024; omega, by show _ ≤ 7293034; omega⟩) hS hD2 hA hP1 hAp.symm (fun r2 T2 H locs hm hP2 hD2 hP1 hAp hS => ?_)
  have hAp := hAp.symm
  obtain ⟨hC2, hM2, hR2, he2, ho2⟩ := s_run hC hM hR hw hm
  refine lv_istore (lv' := [(6, .int r2), (5, .int k9), (4, .int (nI i5)), (3, .ref o), (2, .ref mo), (1, .ref x), (0, .ref b)]) hx hb dL_law_546 hl (by decide) rfl (fun ls hl => ?_)
  refine lv_goto (tgt := 767) hx hb dL_law_548 (by decide) ?_
  refine W.widen (k := cells + 3) (n := slots + 25) (by omega) (by omega) ?_
  exact kk _ _ _ _ _ _ ⟨⟨hP1, hD1, hP2, hD2, hAp⟩, hS, hC2, hM2, hR2⟩ (lv_sub hl [2, 3, 4, 5, 6] rfl)
set_option maxHeartbeats 4000000 in
set_option maxRecDepth 100000 in
theorem q_byteAt {p : Program} {l : Launch} {e : Env} {s : State} {m : MethodId} {args : Array Value} {below : List Frame} {meth : Method} {c : Code} {H : Heap} {locs : List Loc} {cells slots : Nat} {Q : State → Prop} {ls : Array Slot} {dC : Nat → ClassId} {dI : Nat → Nat → Nat} {cy : Nat → ClassId} {A : Nat → Prop} {b L : Nat} {xs : Nat → Int32} {x f n sc ia na d ka va o mo : Nat} {ad : Nat → Nat} {G1 G2 : zG} {S1 S2 : zS} {i5 : Nat} {a1 a2 a3 a4 : Int32} (C : zLc p l s m args c dC dI cy A b L xs) (hi5 : i5 + 5 ≤ L) (ha1 : xs (nI (i5 + 1)).toNatClampNeg = a1) (ha2 : xs (nI (i5 + 2)).toNatClampNeg = a2) (ha3 : xs (nI (i5 + 3)).toNatClampNeg = a3) (ha4 : xs (nI (i5 + 4)).toNatClampNeg = a4) (hce : cells + 3 ≤ 601024) (hse : slots + 25 ≤ 7293034) (h : zLw dC dI cy s A x f n sc ia na d ka va o mo ad G1 S1 G2 S2 H locs)
    (hl : lv_has ls 7 [(4, .int (nI i5)), (3, .ref o), (2, .ref mo), (1, .ref x), (0, .ref b)]) (kk : ∀ (G1' : zG) (S1' S2' : zS) (H' : Heap) (locs' : List Loc) (ls' : Array Slot), zLw dC dI cy s A x f n sc ia na d ka va o mo ad G1' S1' G2 S2' H' locs' → lv_has ls' 7 [(4, .int (nI i5)), (3, .ref o), (2, .ref mo), (1, .ref x), (0, .ref b)] → W p l e room_1 s m args below meth c H' locs' (cells + 3) (slots + 25) Q (F0 m 767 ls' [])) : W p l e room_1 s m args below meth c H locs cells slots Q (F0 m 551 ls []) := by
  obtain ⟨⟨hx, hb, hml, hown, hts⟩, ⟨hX, hbl, hbA, hL⟩, hA, hK, hN, hE, hNc, hlt⟩ := C
  obtain ⟨⟨hP1, hD1, hP2, hD2, hAp⟩, hS, hC, hM, hR⟩ := h
  refine lv_aload_n hx hb dL_law_551 rfl (lv_at hl 3 rfl) ?_
  refine lv_aload_n hx hb dL_law_552 rfl (lv_at hl 4 rfl) ?_
  refine lv_iload hx hb dL_law_553 (lv_at hl 0 rfl) ?_
  refine lv_iconst (v := 1) hx hb dL_law_555 (by decide) ?_
  refine lv_iadd hx hb dL_law_556 ?_
  refine lv_topi (fun v1 ev1 => ?_)
  obtain rfl : v1 = nI (i5 + 1) := ev1.trans (nI_add i5 1)
  refine va_sld hx hb hX hbl hbA hS (vp_in_nI (by omega) (by omega)) dL_law_557 ?_
  rw [ha1]
  refine lv_aload_n hx hb dL_law_558 rfl (lv_at hl 4 rfl) ?_
  refine lv_iload hx hb dL_law_559 (lv_at hl 0 rfl) ?_
  refine lv_iconst (v := 2) hx hb dL_law_561 (by decide) ?_
  refine lv_iadd hx hb dL_law_562 ?_
  refine lv_topi (fun v2 ev2 => ?_)
  obtain rfl : v2 = nI (i5 + 2) := ev2.trans (nI_add i5 2)
  refine va_sld hx hb hX hbl hbA hS (vp_in_nI (by omega) (by omega)) dL_law_563 ?_
  rw [ha2]
  refine lv_aload_n hx hb dL_law_564 rfl (lv_at hl 4 rfl) ?_
  refine lv_iload hx hb dL_law_565 (lv_at hl 0 rfl) ?_
  refine lv_iconst (v := 3) hx hb dL_law_567 (by decide) ?_
  refine lv_iadd hx hb dL_law_568 ?_
  refine lv_topi (fun v3 ev3 => ?_)
  obtain rfl : v3 = nI (i5 + 3) := ev3.trans (nI_add i5 3)
  refine va_sld hx hb hX hbl hbA hS (vp_in_nI (by omega) (by omega)) dL_law_569 ?_
  rw [ha3]
  refine lv_aload_n hx hb dL_law_570 rfl (lv_at hl 1 rfl) ?_
  refine zc2i (vx_runSW (As := [.ref x, .int a1, .int a2, .int a3, .ref o]) (rest := []) ⟨hx, hb, hml, hown, hts⟩ (w_L_byteAt l hlt dC dI cy G1 S1 H.size x f n sc ia na d ka va a1 a2 a3 o hC.1 hC.2.1.1 hC.2.1.2) (vx_cwSW 5 hts gL_law_L_byteAt rfl rfl rfl (by decide +kernel) ⟨Nat.le_of_ble_eq_true rfl, Nat.le_of_ble_eq_true rfl⟩) (zpreSy hK hP1 hD1 hN hE hS hA hNc) rfl rfl hl.1 rfl (lv_room (Nat.le_of_ble_eq_true rfl)) dL_law_571 ⟨by show _ ≤ 601024; omega, by show _ ≤ 7293034; omega⟩) hS hD1 hA hP2 hAp (fun k9 T1 H locs hw hP1 hD1 hP2 hAp hS => ?_)
  refine lv_istore (lv' := [(5, .int k9), (4, .int (nI i5)), (3, .ref o), (2, .ref mo), (1, .ref x), (0, .ref b)]) hx hb dL_law_574 hl (by decide) rfl (fun ls hl => ?_)
  refine lv_aload_n hx hb dL_law_576 rfl (lv_at hl 3 rfl) ?_
  refine lv_aload_n hx hb dL_law_577 rfl (lv_at hl 5 rfl) ?_
  refine lv_iload hx hb dL_law_578 (lv_at hl 1 rfl) ?_
  refine lv_iconst (v := 1) hx hb dL_law_580 (by decide) ?_
  refine lv_iadd hx hb dL_law_581 ?_
  refine lv_topi (fun v4 ev4 => ?_)
  obtain rfl : v4 = nI (i5 + 1) := ev4.trans (nI_add i5 1)
  refine va_sld hx hb hX hbl hbA hS (vp_in_nI (by omega) (by omega)) dL_law_582 ?_
  rw [ha1]
  refine lv_aload_n hx hb dL_law_583 rfl (lv_at hl 5 rfl) ?_
  refine lv_iload hx hb dL_law_584 (lv_at hl 1 rfl) ?_
  refine lv_iconst (v := 2) hx hb dL_law_586 (by decide) ?_
  refine lv_iadd hx hb dL_law_587 ?_
  refine lv_topi (fun v5 ev5 => ?_)
  obtain rfl : v5 = nI (i5 + 2) := ev5.trans (nI_add i5 2)
  refine va_sld hx hb hX hbl hbA hS (vp_in_nI (by omega) (by omega)) dL_law_588 ?_
  rw [ha2]
  refine lv_aload_n hx hb dL_law_589 rfl (lv_at hl 5 rfl) ?_
  refine lv_iload hx hb dL_law_590 (lv_at hl 1 rfl) ?_
  refine lv_iconst (v := 3) hx hb dL_law_592 (by decide) ?_
  refine lv_iadd hx hb dL_law_593 ?_
  refine lv_topi (fun v6 ev6 => ?_)
  obtain rfl : v6 = nI (i5 + 3) := ev6.trans (nI_add i5 3)
  refine va_sld hx hb hX hbl hbA hS (vp_in_nI (by omega) (by omega)) dL_law_594 ?_
  rw [ha3]
  refine zc2i (va_runV (As := [.int a1, .int a2, .int a3]) (rest := []) ⟨hx, hb, hml, hown, hts⟩ (c_X7_byteAt l dC dI cy G2 S2 H.size mo ad a1 a2 a3 hM.1 hM.2.1) (cwV 3 hts gL_law_X7_byteAt rfl rfl rfl (by decide +kernel) ⟨Nat.le_of_ble_eq_true rfl, Nat.le_of_ble_eq_true rfl⟩) (zpreV hK hP2 hD2 hN (zrecv7 hK hP2 hM.1.1)) rfl rfl hl.1 rfl (lv_room (Nat.le_of_ble_eq_true rfl)) dL_law_595 ⟨by show _ ≤ 601024; omega, by show _ ≤ 7293034; omega⟩) hS hD2 hA hP1 hAp.symm (fun r2 T2 H locs hm hP2 hD2 hP1 hAp hS => ?_)
  have hAp := hAp.symm
  obtain ⟨hC2, hv2⟩ := k_byteAt (v := a1) (id := a2) (b := a3) hC hw
  obtain ⟨hM2, hu2⟩ := m_byteAt hM hm
  have hR2 := hR.vw hv2 hu2
  refine lv_istore (lv' := [(6, .int r2), (5, .int k9), (4, .int (nI i5)), (3, .ref o), (2, .ref mo), (1, .ref x), (0, .ref b)]) hx hb dL_law_598 hl (by decide) rfl (fun ls hl => ?_)
  refine lv_goto (tgt := 767) hx hb dL_law_600 (by decide) ?_
  refine W.widen (k := cells + 3) (n := slots + 25) (by omega) (by omega) ?_
  exact kk _ _ _ _ _ _ ⟨⟨hP1, hD1, hP2, hD2, hAp⟩, hS, hC2, hM2, hR2⟩ (lv_sub hl [2, 3, 4, 5, 6] rfl)
set_option maxHeartbeats 4000000 in
set_option maxRecDepth 100000 in
theorem q_taken {p : Program} {l : Launch} {e : Env} {s : State} {m : MethodId} {args : Array Value} {below : List Frame} {meth : Method} {c : Code} {H : Heap} {locs : List Loc} {cells slots : Nat} {Q : State → Prop} {ls : Array Slot} {dC : Nat → ClassId} {dI : Nat → Nat → Nat} {cy : Nat → ClassId} {A : Nat → Prop} {b L : Nat} {xs : Nat → Int32} {x f n sc ia na d ka va o mo : Nat} {ad : Nat → Nat} {G1 G2 : zG} {S1 S2 : zS} {i5 : Nat} {a1 a2 a3 a4 : Int32} (C : zLc p l s m args c dC dI cy A b L xs) (hi5 : i5 + 5 ≤ L) (ha1 : xs (nI (i5 + 1)).toNatClampNeg = a1) (ha2 : xs (nI (i5 + 2)).toNatClampNeg = a2) (ha3 : xs (nI (i5 + 3)).toNatClampNeg = a3) (ha4 : xs (nI (i5 + 4)).toNatClampNeg = a4) (hce : cells + 3 ≤ 601024) (hse : slots + 25 ≤ 7293034) (h : zLw dC dI cy s A x f n sc ia na d ka va o mo ad G1 S1 G2 S2 H locs)
    (hl : lv_has ls 7 [(4, .int (nI i5)), (3, .ref o), (2, .ref mo), (1, .ref x), (0, .ref b)]) (kk : ∀ (G1' : zG) (S1' S2' : zS) (H' : Heap) (locs' : List Loc) (ls' : Array Slot), zLw dC dI cy s A x f n sc ia na d ka va o mo ad G1' S1' G2 S2' H' locs' → lv_has ls' 7 [(4, .int (nI i5)), (3, .ref o), (2, .ref mo), (1, .ref x), (0, .ref b)] → W p l e room_1 s m args below meth c H' locs' (cells + 3) (slots + 25) Q (F0 m 767 ls' [])) : W p l e room_1 s m args below meth c H locs cells slots Q (F0 m 603 ls []) := by
  obtain ⟨⟨hx, hb, hml, hown, hts⟩, ⟨hX, hbl, hbA, hL⟩, hA, hK, hN, hE, hNc, hlt⟩ := C
  obtain ⟨⟨hP1, hD1, hP2, hD2, hAp⟩, hS, hC, hM, hR⟩ := h
  refine lv_aload_n hx hb dL_law_603 rfl (lv_at hl 3 rfl) ?_
  refine lv_aload_n hx hb dL_law_604 rfl (lv_at hl 4 rfl) ?_
  refine lv_iload hx hb dL_law_605 (lv_at hl 0 rfl) ?_
  refine lv_iconst (v := 1) hx hb dL_law_607 (by decide) ?_
  refine lv_iadd hx hb dL_law_608 ?_
  refine lv_topi (fun v1 ev1 => ?_)
  obtain rfl : v1 = nI (i5 + 1) := ev1.trans (nI_add i5 1)
  refine va_sld hx hb hX hbl hbA hS (vp_in_nI (by omega) (by omega)) dL_law_609 ?_
  rw [ha1]
  refine lv_aload_n hx hb dL_law_610 rfl (lv_at hl 4 rfl) ?_
  refine lv_iload hx hb dL_law_611 (lv_at hl 0 rfl) ?_
  refine lv_iconst (v := 2) hx hb dL_law_613 (by decide) ?_
  refine lv_iadd hx hb dL_law_614 ?_
  refine lv_topi (fun v2 ev2 => ?_)
  obtain rfl : v2 = nI (i5 + 2) := ev2.trans (nI_add i5 2)
  refine va_sld hx hb hX hbl hbA hS (vp_in_nI (by omega) (by omega)) dL_law_615 ?_
  rw [ha2]
  refine lv_aload_n hx hb dL_law_616 rfl (lv_at hl 1 rfl) ?_
  refine zc2i (vx_runSW (As := [.ref x, .int a1, .int a2, .ref o]) (rest := []) ⟨hx, hb, hml, hown, hts⟩ (w_L_taken l hlt dC dI cy G1 S1 H.size x f n sc ia na d ka va a1 a2 o hC.1 hC.2.1.1 hC.2.1.2) (vx_cwSW 4 hts gL_law_L_taken rfl rfl rfl (by decide +kernel) ⟨Nat.le_of_ble_eq_true rfl, Nat.le_of_ble_eq_true rfl⟩) (zpreSy hK hP1 hD1 hN hE hS hA hNc) rfl rfl hl.1 rfl (lv_room (Nat.le_of_ble_eq_true rfl)) dL_law_617 ⟨by show _ ≤ 601024; omega, by show _ ≤ 7293034; omega⟩) hS hD1 hA hP2 hAp (fun k9 T1 H locs hw hP1 hD1 hP2 hAp hS => ?_)
  refine lv_istore (lv' := [(5, .int k9), (4, .int (nI i5)), (3, .ref o), (2, .ref mo), (1, .ref x), (0, .ref b)]) hx hb dL_law_620 hl (by decide) rfl (fun ls hl => ?_)
  refine lv_aload_n hx hb dL_law_622 rfl (lv_at hl 3 rfl) ?_
  refine lv_aload_n hx hb dL_law_623 rfl (lv_at hl 5 rfl) ?_
  refine lv_iload hx hb dL_law_624 (lv_at hl 1 rfl) ?_
  refine lv_iconst (v := 1) hx hb dL_law_626 (by decide) ?_
  refine lv_iadd hx hb dL_law_627 ?_
  refine lv_topi (fun v3 ev3 => ?_)
  obtain rfl : v3 = nI (i5 + 1) := ev3.trans (nI_add i5 1)
  refine va_sld hx hb hX hbl hbA hS (vp_in_nI (by omega) (by omega)) dL_law_628 ?_
  rw [ha1]
  refine lv_aload_n hx hb dL_law_629 rfl (lv_at hl 5 rfl) ?_
  refine lv_iload hx hb dL_law_630 (lv_at hl 1 rfl) ?_
  refine lv_iconst (v := 2) hx hb dL_law_632 (by decide) ?_
  refine lv_iadd hx hb dL_law_633 ?_
  refine lv_topi (fun v4 ev4 => ?_)
  obtain rfl : v4 = nI (i5 + 2) := ev4.trans (nI_add i5 2)
  refine va_sld hx hb hX hbl hbA hS (vp_in_nI (by omega) (by omega)) dL_law_634 ?_
  rw [ha2]
  refine zc2i (va_runV (As := [.int a1, .int a2]) (rest := []) ⟨hx, hb, hml, hown, hts⟩ (c_X7_taken l dC dI cy G2 S2 H.size mo ad a1 a2 hM.1 hM.2.1) (cwV 2 hts gL_law_X7_taken rfl rfl rfl (by decide +kernel) ⟨Nat.le_of_ble_eq_true rfl, Nat.le_of_ble_eq_true rfl⟩) (zpreV hK hP2 hD2 hN (zrecv7 hK hP2 hM.1.1)) rfl rfl hl.1 rfl (lv_room (Nat.le_of_ble_eq_true rfl)) dL_law_635 ⟨by show _ ≤ 601024; omega, by show _ ≤ 7293034; omega⟩) hS hD2 hA hP1 hAp.symm (fun r2 T2 H locs hm hP2 hD2 hP1 hAp hS => ?_)
  have hAp := hAp.symm
  obtain ⟨hC2, hv2⟩ := k_taken (v := a1) (id := a2) hC hw
  obtain ⟨hM2, hu2⟩ := m_taken hM hm
  have hR2 := hR.vw hv2 hu2
  refine lv_istore (lv' := [(6, .int r2), (5, .int k9), (4, .int (nI i5)), (3, .ref o), (2, .ref mo), (1, .ref x), (0, .ref b)]) hx hb dL_law_638 hl (by decide) rfl (fun ls hl => ?_)
  refine lv_goto (tgt := 767) hx hb dL_law_640 (by decide) ?_
  refine W.widen (k := cells + 3) (n := slots + 25) (by omega) (by omega) ?_
  exact kk _ _ _ _ _ _ ⟨⟨hP1, hD1, hP2, hD2, hAp⟩, hS, hC2, hM2, hR2⟩ (lv_sub hl [2, 3, 4, 5, 6] rfl)
set_option maxHeartbeats 4000000 in
set_option maxRecDepth 100000 in
theorem q_told {p : Program} {l : Launch} {e : Env} {s : State} {m : MethodId} {args : Array Value} {below : List Frame} {meth : Method} {c : Code} {H : Heap} {locs : List Loc} {cells slots : Nat} {Q : State → Prop} {ls : Array Slot} {dC : Nat → ClassId} {dI : Nat → Nat → Nat} {cy : Nat → ClassId} {A : Nat → Prop} {b L : Nat} {xs : Nat → Int32} {x f n sc ia na d ka va o mo : Nat} {ad : Nat → Nat} {G1 G2 : zG} {S1 S2 : zS} {i5 : Nat} {a1 a2 a3 a4 : Int32} (C : zLc p l s m args c dC dI cy A b L xs) (hi5 : i5 + 5 ≤ L) (ha1 : xs (nI (i5 + 1)).toNatClampNeg = a1) (ha2 : xs (nI (i5 + 2)).toNatClampNeg = a2) (ha3 : xs (nI (i5 + 3)).toNatClampNeg = a3) (ha4 : xs (nI (i5 + 4)).toNatClampNeg = a4) (hce : cells + 3 ≤ 601024) (hse : slots + 25 ≤ 7293034) (h : zLw dC dI cy s A x f n sc ia na d ka va o mo ad G1 S1 G2 S2 H locs)
    (hl : lv_has ls 7 [(4, .int (nI i5)), (3, .ref o), (2, .ref mo), (1, .ref x), (0, .ref b)]) (kk : ∀ (G1' : zG) (S1' S2' : zS) (H' : Heap) (locs' : List Loc) (ls' : Array Slot), zLw dC dI cy s A x f n sc ia na d ka va o mo ad G1' S1' G2 S2' H' locs' → lv_has ls' 7 [(4, .int (nI i5)), (3, .ref o), (2, .ref mo), (1, .ref x), (0, .ref b)] → W p l e room_1 s m args below meth c H' locs' (cells + 3) (slots + 25) Q (F0 m 767 ls' [])) : W p l e room_1 s m args below meth c H locs cells slots Q (F0 m 643 ls []) := by
  obtain ⟨⟨hx, hb, hml, hown, hts⟩, ⟨hX, hbl, hbA, hL⟩, hA, hK, hN, hE, hNc, hlt⟩ := C
  obtain ⟨⟨hP1, hD1, hP2, hD2, hAp⟩, hS, hC, hM, hR⟩ := h
  refine lv_aload_n hx hb dL_law_643 rfl (lv_at hl 3 rfl) ?_
  refine lv_aload_n hx hb dL_law_644 rfl (lv_at hl 4 rfl) ?_
  refine lv_iload hx hb dL_law_645 (lv_at hl 0 rfl) ?_
  refine lv_iconst (v := 1) hx hb dL_law_647 (by decide) ?_
  refine lv_iadd hx hb dL_law_648 ?_
  refine lv_topi (fun v1 ev1 => ?_)
  obtain rfl : v1 = nI (i5 + 1) := ev1.trans (nI_add i5 1)
  refine va_sld hx hb hX hbl hbA hS (vp_in_nI (by omega) (by omega)) dL_law_649 ?_
  rw [ha1]
  refine lv_aload_n hx hb dL_law_650 rfl (lv_at hl 4 rfl) ?_
  refine lv_iload hx hb dL_law_651 (lv_at hl 0 rfl) ?_
  refine lv_iconst (v := 2) hx hb dL_law_653 (by decide) ?_
  refine lv_iadd hx hb dL_law_654 ?_
  refine lv_topi (fun v2 ev2 => ?_)
  obtain rfl : v2 = nI (i5 + 2) := ev2.trans (nI_add i5 2)
  refine va_sld hx hb hX hbl hbA hS (vp_in_nI (by omega) (by omega)) dL_law_655 ?_
  rw [ha2]
  refine lv_aload_n hx hb dL_law_656 rfl (lv_at hl 1 rfl) ?_
  refine zc2i (vx_runSW (As := [.ref x, .int a1, .int a2, .ref o]) (rest := []) ⟨hx, hb, hml, hown, hts⟩ (w_L_told l hlt dC dI cy G1 S1 H.size x f n sc ia na d ka va a1 a2 o hC.1 hC.2.1.1 hC.2.1.2) (vx_cwSW 4 hts gL_law_L_told rfl rfl rfl (by decide +kernel) ⟨Nat.le_of_ble_eq_true rfl, Nat.le_of_ble_eq_true rfl⟩) (zpreSy hK hP1 hD1 hN hE hS hA hNc) rfl rfl hl.1 rfl (lv_room (Nat.le_of_ble_eq_true rfl)) dL_law_657 ⟨by show _ ≤ 601024; omega, by show _ ≤ 7293034; omega⟩) hS hD1 hA hP2 hAp (fun k9 T1 H locs hw hP1 hD1 hP2 hAp hS => ?_)
  refine lv_istore (lv' := [(5, .int k9), (4, .int (nI i5)), (3, .ref o), (2, .ref mo), (1, .ref x), (0, .ref b)]) hx hb dL_law_660 hl (by decide) rfl (fun ls hl => ?_)
  refine lv_aload_n hx hb dL_law_662 rfl (lv_at hl 3 rfl) ?_
  refine lv_aload_n hx hb dL_law_663 rfl (lv_at hl 5 rfl) ?_
  refine lv_iload hx hb dL_law_664 (lv_at hl 1 rfl) ?_
  refine lv_iconst (v := 1) hx hb dL_law_666 (by decide) ?_
  refine lv_iadd hx hb dL_law_667 ?_
  refine lv_topi (fun v3 ev3 => ?_)
  obtain rfl : v3 = nI (i5 + 1) := ev3.trans (nI_add i5 1)
  refine va_sld hx hb hX hbl hbA hS (vp_in_nI (by omega) (by omega)) dL_law_668 ?_
  rw [ha1]
  refine lv_aload_n hx hb dL_law_669 rfl (lv_at hl 5 rfl) ?_
  refine lv_iload hx hb dL_law_670 (lv_at hl 1 rfl) ?_
  refine lv_iconst (v := 2) hx hb dL_law_672 (by decide) ?_
  refine lv_iadd hx hb dL_law_673 ?_
  refine lv_topi (fun v4 ev4 => ?_)
  obtain rfl : v4 = nI (i5 + 2) := ev4.trans (nI_add i5 2)
  refine va_sld hx hb hX hbl hbA hS (vp_in_nI (by omega) (by omega)) dL_law_674 ?_
  rw [ha2]
  refine zc2i (va_runV (As := [.int a1, .int a2]) (rest := []) ⟨hx, hb, hml, hown, hts⟩ (c_X7_told l dC dI cy G2 S2 H.size mo ad a1 a2 hM.1 hM.2.1) (cwV 2 hts gL_law_X7_told rfl rfl rfl (by decide +kernel) ⟨Nat.le_of_ble_eq_true rfl, Nat.le_of_ble_eq_true rfl⟩) (zpreV hK hP2 hD2 hN (zrecv7 hK hP2 hM.1.1)) rfl rfl hl.1 rfl (lv_room (Nat.le_of_ble_eq_true rfl)) dL_law_675 ⟨by show _ ≤ 601024; omega, by show _ ≤ 7293034; omega⟩) hS hD2 hA hP1 hAp.symm (fun r2 T2 H locs hm hP2 hD2 hP1 hAp hS => ?_)
  have hAp := hAp.symm
  obtain ⟨hC2, hv2⟩ := k_told (v := a1) (k := a2) hC hw
  obtain ⟨hM2, hu2⟩ := m_told hM hm
  have hR2 := hR.vw hv2 hu2
  refine lv_istore (lv' := [(6, .int r2), (5, .int k9), (4, .int (nI i5)), (3, .ref o), (2, .ref mo), (1, .ref x), (0, .ref b)]) hx hb dL_law_678 hl (by decide) rfl (fun ls hl => ?_)
  refine lv_goto (tgt := 767) hx hb dL_law_680 (by decide) ?_
  refine W.widen (k := cells + 3) (n := slots + 25) (by omega) (by omega) ?_
  exact kk _ _ _ _ _ _ ⟨⟨hP1, hD1, hP2, hD2, hAp⟩, hS, hC2, hM2, hR2⟩ (lv_sub hl [2, 3, 4, 5, 6] rfl)
set_option maxHeartbeats 4000000 in
set_option maxRecDepth 100000 in
theorem q_count {p : Program} {l : Launch} {e : Env} {s : State} {m : MethodId} {args : Array Value} {below : List Frame} {meth : Method} {c : Code} {H : Heap} {locs : List Loc} {cells slots : Nat} {Q : State → Prop} {ls : Array Slot} {dC : Nat → ClassId} {dI : Nat → Nat → Nat} {cy : Nat → ClassId} {A : Nat → Prop} {b L : Nat} {xs : Nat → Int32} {x f n sc ia na d ka va o mo : Nat} {ad : Nat → Nat} {G1 G2 : zG} {S1 S2 : zS} {i5 : Nat} {a1 a2 a3 a4 : Int32} (C : zLc p l s m args c dC dI cy A b L xs) (hi5 : i5 + 5 ≤ L) (ha1 : xs (nI (i5 + 1)).toNatClampNeg = a1) (ha2 : xs (nI (i5 + 2)).toNatClampNeg = a2) (ha3 : xs (nI (i5 + 3)).toNatClampNeg = a3) (ha4 : xs (nI (i5 + 4)).toNatClampNeg = a4) (hce : cells + 3 ≤ 601024) (hse : slots + 25 ≤ 7293034) (h : zLw dC dI cy s A x f n sc ia na d ka va o mo ad G1 S1 G2 S2 H locs)
    (hl : lv_has ls 7 [(4, .int (nI i5)), (3, .ref o), (2, .ref mo), (1, .ref x), (0, .ref b)]) (kk : ∀ (G1' : zG) (S1' S2' : zS) (H' : Heap) (locs' : List Loc) (ls' : Array Slot), zLw dC dI cy s A x f n sc ia na d ka va o mo ad G1' S1' G2 S2' H' locs' → lv_has ls' 7 [(4, .int (nI i5)), (3, .ref o), (2, .ref mo), (1, .ref x), (0, .ref b)] → W p l e room_1 s m args below meth c H' locs' (cells + 3) (slots + 25) Q (F0 m 767 ls' [])) : W p l e room_1 s m args below meth c H locs cells slots Q (F0 m 683 ls []) := by
  obtain ⟨⟨hx, hb, hml, hown, hts⟩, ⟨hX, hbl, hbA, hL⟩, hA, hK, hN, hE, hNc, hlt⟩ := C
  obtain ⟨⟨hP1, hD1, hP2, hD2, hAp⟩, hS, hC, hM, hR⟩ := h
  refine lv_aload_n hx hb dL_law_683 rfl (lv_at hl 3 rfl) ?_
  refine lv_aload_n hx hb dL_law_684 rfl (lv_at hl 4 rfl) ?_
  refine lv_iload hx hb dL_law_685 (lv_at hl 0 rfl) ?_
  refine lv_iconst (v := 1) hx hb dL_law_687 (by decide) ?_
  refine lv_iadd hx hb dL_law_688 ?_
  refine lv_topi (fun v1 ev1 => ?_)
  obtain rfl : v1 = nI (i5 + 1) := ev1.trans (nI_add i5 1)
  refine va_sld hx hb hX hbl hbA hS (vp_in_nI (by omega) (by omega)) dL_law_689 ?_
  rw [ha1]
  refine lv_aload_n hx hb dL_law_690 rfl (lv_at hl 1 rfl) ?_
  refine zc2i (vx_runSW (As := [.ref x, .int a1, .ref o]) (rest := []) ⟨hx, hb, hml, hown, hts⟩ (w_L_count l hlt dC dI cy G1 S1 H.size x f n sc ia na d ka va a1 o hC.1 hC.2.1.1 hC.2.1.2) (vx_cwSW 3 hts gL_law_L_count rfl rfl rfl (by decide +kernel) ⟨Nat.le_of_ble_eq_true rfl, Nat.le_of_ble_eq_true rfl⟩) (zpreSy hK hP1 hD1 hN hE hS hA hNc) rfl rfl hl.1 rfl (lv_room (Nat.le_of_ble_eq_true rfl)) dL_law_691 ⟨by show _ ≤ 601024; omega, by show _ ≤ 7293034; omega⟩) hS hD1 hA hP2 hAp (fun k9 T1 H locs hw hP1 hD1 hP2 hAp hS => ?_)
  refine lv_istore (lv' := [(5, .int k9), (4, .int (nI i5)), (3, .ref o), (2, .ref mo), (1, .ref x), (0, .ref b)]) hx hb dL_law_694 hl (by decide) rfl (fun ls hl => ?_)
  refine lv_aload_n hx hb dL_law_696 rfl (lv_at hl 3 rfl) ?_
  refine lv_aload_n hx hb dL_law_697 rfl (lv_at hl 5 rfl) ?_
  refine lv_iload hx hb dL_law_698 (lv_at hl 1 rfl) ?_
  refine lv_iconst (v := 1) hx hb dL_law_700 (by decide) ?_
  refine lv_iadd hx hb dL_law_701 ?_
  refine lv_topi (fun v2 ev2 => ?_)
  obtain rfl : v2 = nI (i5 + 1) := ev2.trans (nI_add i5 1)
  refine va_sld hx hb hX hbl hbA hS (vp_in_nI (by omega) (by omega)) dL_law_702 ?_
  rw [ha1]
  refine zc2i (va_runV (As := [.int a1]) (rest := []) ⟨hx, hb, hml, hown, hts⟩ (c_X7_count l dC dI cy G2 S2 H.size mo ad a1 hM.1 hM.2.1) (cwV 1 hts gL_law_X7_count rfl rfl rfl (by decide +kernel) ⟨Nat.le_of_ble_eq_true rfl, Nat.le_of_ble_eq_true rfl⟩) (zpreV hK hP2 hD2 hN (zrecv7 hK hP2 hM.1.1)) rfl rfl hl.1 rfl (lv_room (Nat.le_of_ble_eq_true rfl)) dL_law_703 ⟨by show _ ≤ 601024; omega, by show _ ≤ 7293034; omega⟩) hS hD2 hA hP1 hAp.symm (fun r2 T2 H locs hm hP2 hD2 hP1 hAp hS => ?_)
  have hAp := hAp.symm
  obtain ⟨hC2, hv2⟩ := k_count (k := a1) hC hw
  obtain ⟨hM2, hu2⟩ := m_count hM hm
  have hR2 := hR.vw hv2 hu2
  refine lv_istore (lv' := [(6, .int r2), (5, .int k9), (4, .int (nI i5)), (3, .ref o), (2, .ref mo), (1, .ref x), (0, .ref b)]) hx hb dL_law_706 hl (by decide) rfl (fun ls hl => ?_)
  refine lv_goto (tgt := 767) hx hb dL_law_708 (by decide) ?_
  refine W.widen (k := cells + 3) (n := slots + 25) (by omega) (by omega) ?_
  exact kk _ _ _ _ _ _ ⟨⟨hP1, hD1, hP2, hD2, hAp⟩, hS, hC2, hM2, hR2⟩ (lv_sub hl [2, 3, 4, 5, 6] rfl)
set_option maxHeartbeats 4000000 in
set_option maxRecDepth 100000 in
theorem q_line {p : Program} {l : Launch} {e : Env} {s : State} {m : MethodId} {args : Array Value} {below : List Frame} {meth : Method} {c : Code} {H : Heap} {locs : List Loc} {cells slots : Nat} {Q : State → Prop} {ls : Array Slot} {dC : Nat → ClassId} {dI : Nat → Nat → Nat} {cy : Nat → ClassId} {A : Nat → Prop} {b L : Nat} {xs : Nat → Int32} {x f n sc ia na d ka va o mo : Nat} {ad : Nat → Nat} {G1 G2 : zG} {S1 S2 : zS} {i5 : Nat} {a1 a2 a3 a4 : Int32} (C : zLc p l s m args c dC dI cy A b L xs) (hi5 : i5 + 5 ≤ L) (ha1 : xs (nI (i5 + 1)).toNatClampNeg = a1) (ha2 : xs (nI (i5 + 2)).toNatClampNeg = a2) (ha3 : xs (nI (i5 + 3)).toNatClampNeg = a3) (ha4 : xs (nI (i5 + 4)).toNatClampNeg = a4) (hce : cells + 3 ≤ 601024) (hse : slots + 25 ≤ 7293034) (h : zLw dC dI cy s A x f n sc ia na d ka va o mo ad G1 S1 G2 S2 H locs)
    (hl : lv_has ls 7 [(4, .int (nI i5)), (3, .ref o), (2, .ref mo), (1, .ref x), (0, .ref b)]) (kk : ∀ (G1' : zG) (S1' S2' : zS) (H' : Heap) (locs' : List Loc) (ls' : Array Slot), zLw dC dI cy s A x f n sc ia na d ka va o mo ad G1' S1' G2 S2' H' locs' → lv_has ls' 7 [(4, .int (nI i5)), (3, .ref o), (2, .ref mo), (1, .ref x), (0, .ref b)] → W p l e room_1 s m args below meth c H' locs' (cells + 3) (slots + 25) Q (F0 m 767 ls' [])) : W p l e room_1 s m args below meth c H locs cells slots Q (F0 m 711 ls []) := by
  obtain ⟨⟨hx, hb, hml, hown, hts⟩, ⟨hX, hbl, hbA, hL⟩, hA, hK, hN, hE, hNc, hlt⟩ := C
  obtain ⟨⟨hP1, hD1, hP2, hD2, hAp⟩, hS, hC, hM, hR⟩ := h
  obtain ⟨t8, hlt8, ht8⟩ := hM.2.1.2.2.1
  refine lv_aload_n hx hb dL_law_711 rfl (lv_at hl 3 rfl) ?_
  refine lv_aload_n hx hb dL_law_712 rfl (lv_at hl 4 rfl) ?_
  refine lv_iload hx hb dL_law_713 (lv_at hl 0 rfl) ?_
  refine lv_iconst (v := 1) hx hb dL_law_715 (by decide) ?_
  refine lv_iadd hx hb dL_law_716 ?_
  refine lv_topi (fun v1 ev1 => ?_)
  obtain rfl : v1 = nI (i5 + 1) := ev1.trans (nI_add i5 1)
  refine va_sld hx hb hX hbl hbA hS (vp_in_nI (by omega) (by omega)) dL_law_717 ?_
  rw [ha1]
  refine lv_aload_n hx hb dL_law_718 rfl (lv_at hl 1 rfl) ?_
  refine zc2i (vx_runSW (As := [.ref x, .int a1, .ref o]) (rest := []) ⟨hx, hb, hml, hown, hts⟩ (w_L_line l hlt dC dI cy G1 S1 H.size x f n sc ia na d ka va a1 o hC.1 hC.2.1.1 hC.2.1.2) (vx_cwSW 3 hts gL_law_L_line rfl rfl rfl (by decide +kernel) ⟨Nat.le_of_ble_eq_true rfl, Nat.le_of_ble_eq_true rfl⟩) (zpreSy hK hP1 hD1 hN hE hS hA hNc) rfl rfl hl.1 rfl (lv_room (Nat.le_of_ble_eq_true rfl)) dL_law_719 ⟨by show _ ≤ 601024; omega, by show _ ≤ 7293034; omega⟩) hS hD1 hA hP2 hAp (fun k9 T1 H locs hw hP1 hD1 hP2 hAp hS => ?_)
  refine lv_istore (lv' := [(5, .int k9), (4, .int (nI i5)), (3, .ref o), (2, .ref mo), (1, .ref x), (0, .ref b)]) hx hb dL_law_722 hl (by decide) rfl (fun ls hl => ?_)
  refine lv_aload_n hx hb dL_law_724 rfl (lv_at hl 3 rfl) ?_
  refine lv_aload_n hx hb dL_law_725 rfl (lv_at hl 5 rfl) ?_
  refine lv_iload hx hb dL_law_726 (lv_at hl 1 rfl) ?_
  refine lv_iconst (v := 1) hx hb dL_law_728 (by decide) ?_
  refine lv_iadd hx hb dL_law_729 ?_
  refine lv_topi (fun v2 ev2 => ?_)
  obtain rfl : v2 = nI (i5 + 1) := ev2.trans (nI_add i5 1)
  refine va_sld hx hb hX hbl hbA hS (vp_in_nI (by omega) (by omega)) dL_law_730 ?_
  rw [ha1]
  refine zc2i (va_runV (As := [.int a1]) (rest := []) ⟨hx, hb, hml, hown, hts⟩ (c_X7_line l dC dI cy G2 S2 H.size mo ad a1 t8 hM.1 hM.2.1 ht8 hlt8) (cwV 1 hts gL_law_X7_line rfl rfl rfl (by decide +kernel) ⟨Nat.le_of_ble_eq_true rfl, Nat.le_of_ble_eq_true rfl⟩) (zpreV hK hP2 hD2 hN (zrecv7 hK hP2 hM.1.1)) rfl rfl hl.1 rfl (lv_room (Nat.le_of_ble_eq_true rfl)) dL_law_731 ⟨by show _ ≤ 601024; omega, by show _ ≤ 7293034; omega⟩) hS hD2 hA hP1 hAp.symm (fun r2 T2 H locs hm hP2 hD2 hP1 hAp hS => ?_)
  have hAp := hAp.symm
  obtain ⟨hC2, hv2⟩ := k_line (b := a1) hC hw
  obtain ⟨hM2, hu2⟩ := m_line hM hm
  have hR2 := hR.vw hv2 hu2
  refine lv_istore (lv' := [(6, .int r2), (5, .int k9), (4, .int (nI i5)), (3, .ref o), (2, .ref mo), (1, .ref x), (0, .ref b)]) hx hb dL_law_734 hl (by decide) rfl (fun ls hl => ?_)
  refine lv_goto (tgt := 767) hx hb dL_law_736 (by decide) ?_
  refine W.widen (k := cells + 3) (n := slots + 25) (by omega) (by omega) ?_
  exact kk _ _ _ _ _ _ ⟨⟨hP1, hD1, hP2, hD2, hAp⟩, hS, hC2, hM2, hR2⟩ (lv_sub hl [2, 3, 4, 5, 6] rfl)
set_option maxHeartbeats 4000000 in
set_option maxRecDepth 100000 in
theorem q_checks {p : Program} {l : Launch} {e : Env} {s : State} {m : MethodId} {args : Array Value} {below : List Frame} {meth : Method} {c : Code} {H : Heap} {locs : List Loc} {cells slots : Nat} {Q : State → Prop} {ls : Array Slot} {dC : Nat → ClassId} {dI : Nat → Nat → Nat} {cy : Nat → ClassId} {A : Nat → Prop} {b L : Nat} {xs : Nat → Int32} {x f n sc ia na d ka va o mo : Nat} {ad : Nat → Nat} {G1 G2 : zG} {S1 S2 : zS} {i5 : Nat} {a1 a2 a3 a4 : Int32} (C : zLc p l s m args c dC dI cy A b L xs) (hi5 : i5 + 5 ≤ L) (ha1 : xs (nI (i5 + 1)).toNatClampNeg = a1) (ha2 : xs (nI (i5 + 2)).toNatClampNeg = a2) (ha3 : xs (nI (i5 + 3)).toNatClampNeg = a3) (ha4 : xs (nI (i5 + 4)).toNatClampNeg = a4) (hce : cells + 3 ≤ 601024) (hse : slots + 25 ≤ 7293034) (h : zLw dC dI cy s A x f n sc ia na d ka va o mo ad G1 S1 G2 S2 H locs)
    (hl : lv_has ls 7 [(4, .int (nI i5)), (3, .ref o), (2, .ref mo), (1, .ref x), (0, .ref b)]) (kk : ∀ (G1' : zG) (S1' S2' : zS) (H' : Heap) (locs' : List Loc) (ls' : Array Slot), zLw dC dI cy s A x f n sc ia na d ka va o mo ad G1' S1' G2 S2' H' locs' → lv_has ls' 7 [(4, .int (nI i5)), (3, .ref o), (2, .ref mo), (1, .ref x), (0, .ref b)] → W p l e room_1 s m args below meth c H' locs' (cells + 3) (slots + 25) Q (F0 m 767 ls' [])) : W p l e room_1 s m args below meth c H locs cells slots Q (F0 m 739 ls []) := by
  obtain ⟨⟨hx, hb, hml, hown, hts⟩, ⟨hX, hbl, hbA, hL⟩, hA, hK, hN, hE, hNc, hlt⟩ := C
  obtain ⟨⟨hP1, hD1, hP2, hD2, hAp⟩, hS, hC, hM, hR⟩ := h
  refine lv_aload_n hx hb dL_law_739 rfl (lv_at hl 3 rfl) ?_
  refine lv_aload_n hx hb dL_law_740 rfl (lv_at hl 4 rfl) ?_
  refine lv_iload hx hb dL_law_741 (lv_at hl 0 rfl) ?_
  refine lv_iconst (v := 1) hx hb dL_law_743 (by decide) ?_
  refine lv_iadd hx hb dL_law_744 ?_
  refine lv_topi (fun v1 ev1 => ?_)
  obtain rfl : v1 = nI (i5 + 1) := ev1.trans (nI_add i5 1)
  refine va_sld hx hb hX hbl hbA hS (vp_in_nI (by omega) (by omega)) dL_law_745 ?_
  rw [ha1]
  refine lv_aload_n hx hb dL_law_746 rfl (lv_at hl 1 rfl) ?_
  refine zc2i (vx_runSW (As := [.ref x, .int a1, .ref o]) (rest := []) ⟨hx, hb, hml, hown, hts⟩ (w_L_checks l hlt dC dI cy G1 S1 H.size x f n sc ia na d ka va a1 o hC.1 hC.2.1.1 hC.2.1.2) (vx_cwSW 3 hts gL_law_L_checks rfl rfl rfl (by decide +kernel) ⟨Nat.le_of_ble_eq_true rfl, Nat.le_of_ble_eq_true rfl⟩) (zpreSy hK hP1 hD1 hN hE hS hA hNc) rfl rfl hl.1 rfl (lv_room (Nat.le_of_ble_eq_true rfl)) dL_law_747 ⟨by show _ ≤ 601024; omega, by show _ ≤ 7293034; omega⟩) hS hD1 hA hP2 hAp (fun k9 T1 H locs hw hP1 hD1 hP2 hAp hS => ?_)
  refine lv_istore (lv' := [(5, .int k9), (4, .int (nI i5)), (3, .ref o), (2, .ref mo), (1, .ref x), (0, .ref b)]) hx hb dL_law_750 hl (by decide) rfl (fun ls hl => ?_)
  refine lv_aload_n hx hb dL_law_752 rfl (lv_at hl 3 rfl) ?_
  refine lv_aload_n hx hb dL_law_753 rfl (lv_at hl 5 rfl) ?_
  refine lv_iload hx hb dL_law_754 (lv_at hl 1 rfl) ?_
  refine lv_iconst (v := 1) hx hb dL_law_756 (by decide) ?_
  refine lv_iadd hx hb dL_law_757 ?_
  refine lv_topi (fun v2 ev2 => ?_)
  obtain rfl : v2 = nI (i5 + 1) := ev2.trans (nI_add i5 1)
  refine va_sld hx hb hX hbl hbA hS (vp_in_nI (by omega) (by omega)) dL_law_758 ?_
  rw [ha1]
  refine zc2i (va_runV (As := [.int a1]) (rest := []) ⟨hx, hb, hml, hown, hts⟩ (c_X7_checks l dC dI cy G2 S2 H.size mo ad a1 hM.1 hM.2.1) (cwV 1 hts gL_law_X7_checks rfl rfl rfl (by decide +kernel) ⟨Nat.le_of_ble_eq_true rfl, Nat.le_of_ble_eq_true rfl⟩) (zpreV hK hP2 hD2 hN (zrecv7 hK hP2 hM.1.1)) rfl rfl hl.1 rfl (lv_room (Nat.le_of_ble_eq_true rfl)) dL_law_759 ⟨by show _ ≤ 601024; omega, by show _ ≤ 7293034; omega⟩) hS hD2 hA hP1 hAp.symm (fun r2 T2 H locs hm hP2 hD2 hP1 hAp hS => ?_)
  have hAp := hAp.symm
  obtain ⟨hC2, hv2⟩ := k_checks (id := a1) hC hw
  obtain ⟨hM2, hu2⟩ := m_checks hM hm
  have hR2 := hR.vw hv2 hu2
  refine lv_istore (lv' := [(6, .int r2), (5, .int k9), (4, .int (nI i5)), (3, .ref o), (2, .ref mo), (1, .ref x), (0, .ref b)]) hx hb dL_law_762 hl (by decide) rfl (fun ls hl => ?_)
  refine lv_goto (tgt := 767) hx hb dL_law_764 (by decide) ?_
  refine W.widen (k := cells + 3) (n := slots + 25) (by omega) (by omega) ?_
  exact kk _ _ _ _ _ _ ⟨⟨hP1, hD1, hP2, hD2, hAp⟩, hS, hC2, hM2, hR2⟩ (lv_sub hl [2, 3, 4, 5, 6] rfl)
