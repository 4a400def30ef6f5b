def zLw (dC : Nat → ClassId) (dI : Nat → Nat → Nat) (cy : Nat → ClassId) (s : State) (A : Nat → Prop) (x f n sc ia na d ka va o mo : Nat) (ad : Nat → Nat) (G1 : zG) (S1 : zS) (G2 : zG) (S2 : zS) (H : Heap) (locs : List Loc) : Prop :=
  (va_P (dC, dI) vwCl (zW cy G1 S1) H ∧ va_D A (zW cy G1 S1) ∧ va_P (dC, dI) vwCl (zW cy G2 S2) H ∧ va_D A (zW cy G2 S2) ∧ zAp (zW cy G1 S1) (zW cy G2 S2)) ∧ va_S A s.heap H locs ∧ zCI G1 S1 x f n sc ia na d ka va o ∧ zMI G2 S2 mo ad ∧ zRl x f n sc mo ad S1 S2
/-- what holds all through the law -/
def zLc (p : Program) (l : Launch) (s : State) (m : MethodId) (args : Array Value) (c : Code) (dC : Nat → ClassId) (dI : Nat → Nat → Nat) (cy : Nat → ClassId) (A : Nat → Prop) (b L : Nat) (xs : Nat → Int32) : Prop :=
  CallFix p m c cL_law 7 s args wsL_law RL ∧ (va_X b L xs s s.heap ∧ b < s.heap.size ∧ ¬ A b ∧ L ≤ 2560) ∧ (∀ q : Nat, s.heap.size ≤ q → A q) ∧ va_K (dC, dI) vwCl (zT cy) s ∧ zN s ∧ zEx A s s.heap ∧ va_Nc "java/lang/IllegalStateException" "java/lang/IllegalArgumentException" s ∧ l.stackTraces = false
theorem zcmp0 {a b : Int64} (h : a = b) : lg_cmp a b = 0 := by subst h; simp [lg_cmp]
set_option maxHeartbeats 4000000 in
set_option maxRecDepth 100000 in
theorem q_frame {p : Program} {l : Launch} {e : Env} {s : State} {m : MethodId} {args : Array Value} {below : List Frame} {meth : Method} {c : Code} {H : Heap} {locs : List Loc} {cells slots : Nat} {Q : State → Prop} {ls : Array Slot} {dC : Nat → ClassId} {dI : Nat → Nat → Nat} {cy : Nat → ClassId} {A : Nat → Prop} {b L : Nat} {xs : Nat → Int32} {x f n sc ia na d ka va o mo : Nat} {ad : Nat → Nat} {G1 G2 : zG} {S1 S2 : zS} {i5 : Nat} {a1 a2 a3 a4 : Int32} (C : zLc p l s m args c dC dI cy A b L xs) (hi5 : i5 + 5 ≤ L) (ha1 : xs (nI (i5 + 1)).toNatClampNeg = a1) (ha2 : xs (nI (i5 + 2)).toNatClampNeg = a2) (ha3 : xs (nI (i5 + 3)).toNatClampNeg = a3) (ha4 : xs (nI (i5 + 4)).toNatClampNeg = a4) (hce : cells + 3 ≤ 777099) (hse : slots + 25 ≤ 6764806) (h : zLw dC dI cy s A x f n sc ia na d ka va o mo ad G1 S1 G2 S2 H locs)
    (hl : lv_has ls 7 [(4, .int (nI i5)), (3, .ref o), (2, .ref mo), (1, .ref x), (0, .ref b)]) (kk : ∀ (G1' : zG) (S1' S2' : zS) (H' : Heap) (locs' : List Loc) (ls' : Array Slot), zLw dC dI cy s A x f n sc ia na d ka va o mo ad G1' S1' G2 S2' H' locs' → lv_has ls' 7 [(4, .int (nI i5)), (3, .ref o), (2, .ref mo), (1, .ref x), (0, .ref b)] → W p l e room_1 s m args below meth c H' locs' (cells + 3) (slots + 25) Q (F0 m 784 ls' [])) : W p l e room_1 s m args below meth c H locs cells slots Q (F0 m 112 ls []) := by
  obtain ⟨⟨hx, hb, hml, hown, hts⟩, ⟨hX, hbl, hbA, hL⟩, hA, hK, hN, hE, hNc, hlt⟩ := C
  obtain ⟨⟨hP1, hD1, hP2, hD2, hAp⟩, hS, hC, hM, hR⟩ := h
  refine lv_aload_n hx hb dL_law_112 rfl (lv_at hl 3 rfl) ?_
  refine lv_aload_n hx hb dL_law_113 rfl (lv_at hl 4 rfl) ?_
  refine lv_iload hx hb dL_law_114 (lv_at hl 0 rfl) ?_
  refine lv_iconst (v := 1) hx hb dL_law_116 (by decide) ?_
  refine lv_iadd hx hb dL_law_117 ?_
  refine lv_topi (fun v1 ev1 => ?_)
  obtain rfl : v1 = nI (i5 + 1) := ev1.trans (nI_add i5 1)
  refine va_sld hx hb hX hbl hbA hS (vp_in_nI (by omega) (by omega)) dL_law_118 ?_
  rw [ha1]
  refine lv_aload_n hx hb dL_law_119 rfl (lv_at hl 4 rfl) ?_
  refine lv_iload hx hb dL_law_120 (lv_at hl 0 rfl) ?_
  refine lv_iconst (v := 2) hx hb dL_law_122 (by decide) ?_
  refine lv_iadd hx hb dL_law_123 ?_
  refine lv_topi (fun v2 ev2 => ?_)
  obtain rfl : v2 = nI (i5 + 2) := ev2.trans (nI_add i5 2)
  refine va_sld hx hb hX hbl hbA hS (vp_in_nI (by omega) (by omega)) dL_law_124 ?_
  rw [ha2]
  refine lv_aload_n hx hb dL_law_125 rfl (lv_at hl 4 rfl) ?_
  refine lv_iload hx hb dL_law_126 (lv_at hl 0 rfl) ?_
  refine lv_iconst (v := 3) hx hb dL_law_128 (by decide) ?_
  refine lv_iadd hx hb dL_law_129 ?_
  refine lv_topi (fun v3 ev3 => ?_)
  obtain rfl : v3 = nI (i5 + 3) := ev3.trans (nI_add i5 3)
  refine va_sld hx hb hX hbl hbA hS (vp_in_nI (by omega) (by omega)) dL_law_130 ?_
  rw [ha3]
  refine lv_aload_n hx hb dL_law_131 rfl (lv_at hl 4 rfl) ?_
  refine lv_iload hx hb dL_law_132 (lv_at hl 0 rfl) ?_
  refine lv_iconst (v := 4) hx hb dL_law_134 (by decide) ?_
  refine lv_iadd hx hb dL_law_135 ?_
  refine lv_topi (fun v4 ev4 => ?_)
  obtain rfl : v4 = nI (i5 + 4) := ev4.trans (nI_add i5 4)
  refine va_sld hx hb hX hbl hbA hS (vp_in_nI (by omega) (by omega)) dL_law_136 ?_
  rw [ha4]
  refine lv_if_eq (tgt := 144) hx hb dL_law_137 (by decide) (fun c5 => ?_) (fun c5 => ?_)
  · skip
    refine lv_iconst (v := 0) hx hb dL_law_144 (by decide) ?_
    refine zc2I (vx_runSW (As := [.ref x, .int a1, .int a2, .int a3, .int 0]) (rest := []) ⟨hx, hb, hml, hown, hts⟩ (w_L_frame l hlt dC dI cy G1 S1 H.size x f n sc ia na d ka va a1 a2 a3 0 hC.1) (vx_cwSW 5 hts gL_law_L_frame rfl rfl rfl (by decide +kernel) ⟨Nat.le_of_ble_eq_true rfl, Nat.le_of_ble_eq_true rfl⟩) (zpreSy hK hP1 hD1 hN hE hS hA hNc) rfl rfl hl.1 rfl (lv_room (Nat.le_of_ble_eq_true rfl)) dL_law_145 ⟨by show _ ≤ 777099; omega, by show _ ≤ 6764806; omega⟩) hS hD1 hA hP2 hAp (fun k9 u1 H locs hw hP1 hD1 hP2 hAp hS => ?_)
    refine lv_istore (lv' := [(5, .int k9), (4, .int (nI i5)), (3, .ref o), (2, .ref mo), (1, .ref x), (0, .ref b)]) hx hb dL_law_148 hl (by decide) rfl (fun ls hl => ?_)
    refine lv_aload_n hx hb dL_law_150 rfl (lv_at hl 3 rfl) ?_
    refine lv_aload_n hx hb dL_law_151 rfl (lv_at hl 5 rfl) ?_
    refine lv_iload hx hb dL_law_152 (lv_at hl 1 rfl) ?_
    refine lv_iconst (v := 1) hx hb dL_law_154 (by decide) ?_
    refine lv_iadd hx hb dL_law_155 ?_
    refine lv_topi (fun v6 ev6 => ?_)
    obtain rfl : v6 = nI (i5 + 1) := ev6.trans (nI_add i5 1)
    refine va_sld hx hb hX hbl hbA hS (vp_in_nI (by omega) (by omega)) dL_law_156 ?_
    rw [ha1]
    refine lv_aload_n hx hb dL_law_157 rfl (lv_at hl 5 rfl) ?_
    refine lv_iload hx hb dL_law_158 (lv_at hl 1 rfl) ?_
    refine lv_iconst (v := 2) hx hb dL_law_160 (by decide) ?_
    refine lv_iadd hx hb dL_law_161 ?_
    refine lv_topi (fun v7 ev7 => ?_)
    obtain rfl : v7 = nI (i5 + 2) := ev7.trans (nI_add i5 2)
    refine va_sld hx hb hX hbl hbA hS (vp_in_nI (by omega) (by omega)) dL_law_162 ?_
    rw [ha2]
    refine lv_aload_n hx hb dL_law_163 rfl (lv_at hl 5 rfl) ?_
    refine lv_iload hx hb dL_law_164 (lv_at hl 1 rfl) ?_
    refine lv_iconst (v := 3) hx hb dL_law_166 (by decide) ?_
    refine lv_iadd hx hb dL_law_167 ?_
    refine lv_topi (fun v8 ev8 => ?_)
    obtain rfl : v8 = nI (i5 + 3) := ev8.trans (nI_add i5 3)
    refine va_sld hx hb hX hbl hbA hS (vp_in_nI (by omega) (by omega)) dL_law_168 ?_
    rw [ha3]
    refine lv_aload_n hx hb dL_law_169 rfl (lv_at hl 5 rfl) ?_
    refine lv_iload hx hb dL_law_170 (lv_at hl 1 rfl) ?_
    refine lv_iconst (v := 4) hx hb dL_law_172 (by decide) ?_
    refine lv_iadd hx hb dL_law_173 ?_
    refine lv_topi (fun v9 ev9 => ?_)
    obtain rfl : v9 = nI (i5 + 4) := ev9.trans (nI_add i5 4)
    refine va_sld hx hb hX hbl hbA hS (vp_in_nI (by omega) (by omega)) dL_law_174 ?_
    rw [ha4]
    refine lv_if_eq (tgt := 182) hx hb dL_law_175 (by decide) (fun c10 => ?_) (fun c10 => ?_)
    · skip
      refine lv_iconst (v := 0) hx hb dL_law_182 (by decide) ?_
      refine zc2v (va_runV (As := [.int a1, .int a2, .int a3, .int 0]) (rest := []) ⟨hx, hb, hml, hown, hts⟩ (c_X7_frame l dC dI cy G2 S2 H.size mo ad a1 a2 a3 0 hM.1 hM.2.1 hM.2.2.1 hM.2.2.2) (cwV 4 hts gL_law_X7_frame rfl rfl rfl (by decide +kernel) ⟨Nat.le_of_ble_eq_true rfl, Nat.le_of_ble_eq_true rfl⟩) (zpreV hK hP2 hD2 hN (zrecv7 hK hP2 hM.1.1)) rfl rfl hl.1 rfl (lv_room (Nat.le_of_ble_eq_true rfl)) dL_law_183 ⟨by show _ ≤ 777099; omega, by show _ ≤ 6764806; omega⟩) hS hD2 hA hP1 hAp.symm (fun T2 H locs hm hP2 hD2 hP1 hAp hS => ?_)
      have hAp := hAp.symm
      obtain ⟨hC2, hM2, hR2, he2⟩ := s_frame (T1 := S1) hC hM hR hw hm
      refine lv_goto (tgt := 784) hx hb dL_law_186 (by decide) ?_
      refine W.widen (k := cells + 3) (n := slots + 25) (by omega) (by omega) ?_
      exact kk _ _ _ _ _ _ ⟨⟨hP1, hD1, hP2, hD2, hAp⟩, hS, hC2, hM2, hR2⟩ (lv_sub hl [1, 2, 3, 4, 5] rfl)
    · skip
      exact absurd c5 c10
  · skip
    refine lv_iconst (v := 1) hx hb dL_law_140 (by decide) ?_
    refine lv_goto (tgt := 145) hx hb dL_law_141 (by decide) ?_
    refine zc2I (vx_runSW (As := [.ref x, .int a1, .int a2, .int a3, .int 1]) (rest := []) ⟨hx, hb, hml, hown, hts⟩ (w_L_frame l hlt dC dI cy G1 S1 H.size x f n sc ia na d ka va a1 a2 a3 1 hC.1) (vx_cwSW 5 hts gL_law_L_frame rfl rfl rfl (by decide +kernel) ⟨Nat.le_of_ble_eq_true rfl, Nat.le_of_ble_eq_true rfl⟩) (zpreSy hK hP1 hD1 hN hE hS hA hNc) rfl rfl hl.1 rfl (lv_room (Nat.le_of_ble_eq_true rfl)) dL_law_145 ⟨by show _ ≤ 777099; omega, by show _ ≤ 6764806; omega⟩) hS hD1 hA hP2 hAp (fun k9 u1 H locs hw hP1 hD1 hP2 hAp hS => ?_)
    refine lv_istore (lv' := [(5, .int k9), (4, .int (nI i5)), (3, .ref o), (2, .ref mo), (1, .ref x), (0, .ref b)]) hx hb dL_law_148 hl (by decide) rfl (fun ls hl => ?_)
    refine lv_aload_n hx hb dL_law_150 rfl (lv_at hl 3 rfl) ?_
    refine lv_aload_n hx hb dL_law_151 rfl (lv_at hl 5 rfl) ?_
    refine lv_iload hx hb dL_law_152 (lv_at hl 1 rfl) ?_
    refine lv_iconst (v := 1) hx hb dL_law_154 (by decide) ?_
    refine lv_iadd hx hb dL_law_155 ?_
    refine lv_topi (fun v11 ev11 => ?_)
    obtain rfl : v11 = nI (i5 + 1) := ev11.trans (nI_add i5 1)
    refine va_sld hx hb hX hbl hbA hS (vp_in_nI (by omega) (by omega)) dL_law_156 ?_
    rw [ha1]
    refine lv_aload_n hx hb dL_law_157 rfl (lv_at hl 5 rfl) ?_
    refine lv_iload hx hb dL_law_158 (lv_at hl 1 rfl) ?_
    refine lv_iconst (v := 2) hx hb dL_law_160 (by decide) ?_
    refine lv_iadd hx hb dL_law_161 ?_
    refine lv_topi (fun v12 ev12 => ?_)
    obtain rfl : v12 = nI (i5 + 2) := ev12.trans (nI_add i5 2)
    refine va_sld hx hb hX hbl hbA hS (vp_in_nI (by omega) (by omega)) dL_law_162 ?_
    rw [ha2]
    refine lv_aload_n hx hb dL_law_163 rfl (lv_at hl 5 rfl) ?_
    refine lv_iload hx hb dL_law_164 (lv_at hl 1 rfl) ?_
    refine lv_iconst (v := 3) hx hb dL_law_166 (by decide) ?_
    refine lv_iadd hx hb dL_law_167 ?_
    refine lv_topi (fun v13 ev13 => ?_)
    obtain rfl : v13 = nI (i5 + 3) := ev13.trans (nI_add i5 3)
    refine va_sld hx hb hX hbl hbA hS (vp_in_nI (by omega) (by omega)) dL_law_168 ?_
    rw [ha3]
    refine lv_aload_n hx hb dL_law_169 rfl (lv_at hl 5 rfl) ?_
    refine lv_iload hx hb dL_law_170 (lv_at hl 1 rfl) ?_
    refine lv_iconst (v := 4) hx hb dL_law_172 (by decide) ?_
    refine lv_iadd hx hb dL_law_173 ?_
    refine lv_topi (fun v14 ev14 => ?_)
    obtain rfl : v14 = nI (i5 + 4) := ev14.trans (nI_add i5 4)
    refine va_sld hx hb hX hbl hbA hS (vp_in_nI (by omega) (by omega)) dL_law_174 ?_
    rw [ha4]
    refine lv_if_eq (tgt := 182) hx hb dL_law_175 (by decide) (fun c15 => ?_) (fun c15 => ?_)
    · skip
      exact absurd c15 c5
    · skip
      refine lv_iconst (v := 1) hx hb dL_law_178 (by decide) ?_
      refine lv_goto (tgt := 183) hx hb dL_law_179 (by decide) ?_
      refine zc2v (va_runV (As := [.int a1, .int a2, .int a3, .int 1]) (rest := []) ⟨hx, hb, hml, hown, hts⟩ (c_X7_frame l dC dI cy G2 S2 H.size mo ad a1 a2 a3 1 hM.1 hM.2.1 hM.2.2.1 hM.2.2.2) (cwV 4 hts gL_law_X7_frame rfl rfl rfl (by decide +kernel) ⟨Nat.le_of_ble_eq_true rfl, Nat.le_of_ble_eq_true rfl⟩) (zpreV hK hP2 hD2 hN (zrecv7 hK hP2 hM.1.1)) rfl rfl hl.1 rfl (lv_room (Nat.le_of_ble_eq_true rfl)) dL_law_183 ⟨by show _ ≤ 777099; omega, by show _ ≤ 6764806; omega⟩) hS hD2 hA hP1 hAp.symm (fun T2 H locs hm hP2 hD2 hP1 hAp hS => ?_)
      have hAp := hAp.symm
      obtain ⟨hC2, hM2, hR2, he2⟩ := s_frame (T1 := S1) hC hM hR hw hm
      refine lv_goto (tgt := 784) hx hb dL_law_186 (by decide) ?_
      refine W.widen (k := cells + 3) (n := slots + 25) (by omega) (by omega) ?_
      exact kk _ _ _ _ _ _ ⟨⟨hP1, hD1, hP2, hD2, hAp⟩, hS, hC2, hM2, hR2⟩ (lv_sub hl [1, 2, 3, 4, 5] rfl)
set_option maxHeartbeats 4000000 in
set_option maxRecDepth 100000 in
theorem q_listen {p : Program} {l : Launch} {e : Env} {s : State} {m : MethodId} {args : Array Value} {below : List Frame} {meth : Method} {c : Code} {H : Heap} {locs : List Loc} {cells slots : Nat} {Q : State → Prop} {ls : Array Slot} {dC : Nat → ClassId} {dI : Nat → Nat → Nat} {cy : Nat → ClassId} {A : Nat → Prop} {b L : Nat} {xs : Nat → Int32} {x f n sc ia na d ka va o mo : Nat} {ad : Nat → Nat} {G1 G2 : zG} {S1 S2 : zS} {i5 : Nat} {a1 a2 a3 a4 : Int32} (C : zLc p l s m args c dC dI cy A b L xs) (hi5 : i5 + 5 ≤ L) (ha1 : xs (nI (i5 + 1)).toNatClampNeg = a1) (ha2 : xs (nI (i5 + 2)).toNatClampNeg = a2) (ha3 : xs (nI (i5 + 3)).toNatClampNeg = a3) (ha4 : xs (nI (i5 + 4)).toNatClampNeg = a4) (hce : cells + 3 ≤ 777099) (hse : slots + 25 ≤ 6764806) (h : zLw dC dI cy s A x f n sc ia na d ka va o mo ad G1 S1 G2 S2 H locs)
    (hl : lv_has ls 7 [(4, .int (nI i5)), (3, .ref o), (2, .ref mo), (1, .ref x), (0, .ref b)]) (kk : ∀ (G1' : zG) (S1' S2' : zS) (H' : Heap) (locs' : List Loc) (ls' : Array Slot), zLw dC dI cy s A x f n sc ia na d ka va o mo ad G1' S1' G2 S2' H' locs' → lv_has ls' 7 [(4, .int (nI i5)), (3, .ref o), (2, .ref mo), (1, .ref x), (0, .ref b)] → W p l e room_1 s m args below meth c H' locs' (cells + 3) (slots + 25) Q (F0 m 784 ls' [])) : W p l e room_1 s m args below meth c H locs cells slots Q (F0 m 189 ls []) := by
  obtain ⟨⟨hx, hb, hml, hown, hts⟩, ⟨hX, hbl, hbA, hL⟩, hA, hK, hN, hE, hNc, hlt⟩ := C
  obtain ⟨⟨hP1, hD1, hP2, hD2, hAp⟩, hS, hC, hM, hR⟩ := h
  refine lv_aload_n hx hb dL_law_189 rfl (lv_at hl 3 rfl) ?_
  refine lv_aload_n hx hb dL_law_190 rfl (lv_at hl 4 rfl) ?_
  refine lv_iload hx hb dL_law_191 (lv_at hl 0 rfl) ?_
  refine lv_iconst (v := 1) hx hb dL_law_193 (by decide) ?_
  refine lv_iadd hx hb dL_law_194 ?_
  refine lv_topi (fun v1 ev1 => ?_)
  obtain rfl : v1 = nI (i5 + 1) := ev1.trans (nI_add i5 1)
  refine va_sld hx hb hX hbl hbA hS (vp_in_nI (by omega) (by omega)) dL_law_195 ?_
  rw [ha1]
  refine lv_aload_n hx hb dL_law_196 rfl (lv_at hl 4 rfl) ?_
  refine lv_iload hx hb dL_law_197 (lv_at hl 0 rfl) ?_
  refine lv_iconst (v := 2) hx hb dL_law_199 (by decide) ?_
  refine lv_iadd hx hb dL_law_200 ?_
  refine lv_topi (fun v2 ev2 => ?_)
  obtain rfl : v2 = nI (i5 + 2) := ev2.trans (nI_add i5 2)
  refine va_sld hx hb hX hbl hbA hS (vp_in_nI (by omega) (by omega)) dL_law_201 ?_
  rw [ha2]
  refine lv_aload_n hx hb dL_law_202 rfl (lv_at hl 4 rfl) ?_
  refine lv_iload hx hb dL_law_203 (lv_at hl 0 rfl) ?_
  refine lv_iconst (v := 3) hx hb dL_law_205 (by decide) ?_
  refine lv_iadd hx hb dL_law_206 ?_
  refine lv_topi (fun v3 ev3 => ?_)
  obtain rfl : v3 = nI (i5 + 3) := ev3.trans (nI_add i5 3)
  refine va_sld hx hb hX hbl hbA hS (vp_in_nI (by omega) (by omega)) dL_law_207 ?_
  rw [ha3]
  refine lv_if_eq (tgt := 215) hx hb dL_law_208 (by decide) (fun c4 => ?_) (fun c4 => ?_)
  · skip
    refine lv_iconst (v := 0) hx hb dL_law_215 (by decide) ?_
    refine lv_aload_n hx hb dL_law_216 rfl (lv_at hl 1 rfl) ?_
    refine zc2i (vx_runSW (As := [.ref x, .int a1, .int a2, .int 0, .ref o]) (rest := []) ⟨hx, hb, hml, hown, hts⟩ (w_L_listen l hlt dC dI cy G1 S1 H.size x f n sc ia na d ka va a1 a2 0 o hC.1 hC.2.1.1 hC.2.1.2) (vx_cwSW 5 hts gL_law_L_listen rfl rfl rfl (by decide +kernel) ⟨Nat.le_of_ble_eq_true rfl, Nat.le_of_ble_eq_true rfl⟩) (zpreSy hK hP1 hD1 hN hE hS hA hNc) rfl rfl hl.1 rfl (lv_room (Nat.le_of_ble_eq_true rfl)) dL_law_217 ⟨by show _ ≤ 777099; omega, by show _ ≤ 6764806; omega⟩) hS hD1 hA hP2 hAp (fun k9 T1 H locs hw hP1 hD1 hP2 hAp hS => ?_)
    refine lv_istore (lv' := [(5, .int k9), (4, .int (nI i5)), (3, .ref o), (2, .ref mo), (1, .ref x), (0, .ref b)]) hx hb dL_law_220 hl (by decide) rfl (fun ls hl => ?_)
    refine lv_aload_n hx hb dL_law_222 rfl (lv_at hl 3 rfl) ?_
    refine lv_aload_n hx hb dL_law_223 rfl (lv_at hl 5 rfl) ?_
    refine lv_iload hx hb dL_law_224 (lv_at hl 1 rfl) ?_
    refine lv_iconst (v := 1) hx hb dL_law_226 (by decide) ?_
    refine lv_iadd hx hb dL_law_227 ?_
    refine lv_topi (fun v5 ev5 => ?_)
    obtain rfl : v5 = nI (i5 + 1) := ev5.trans (nI_add i5 1)
    refine va_sld hx hb hX hbl hbA hS (vp_in_nI (by omega) (by omega)) dL_law_228 ?_
    rw [ha1]
    refine lv_aload_n hx hb dL_law_229 rfl (lv_at hl 5 rfl) ?_
    refine lv_iload hx hb dL_law_230 (lv_at hl 1 rfl) ?_
    refine lv_iconst (v := 2) hx hb dL_law_232 (by decide) ?_
    refine lv_iadd hx hb dL_law_233 ?_
    refine lv_topi (fun v6 ev6 => ?_)
    obtain rfl : v6 = nI (i5 + 2) := ev6.trans (nI_add i5 2)
    refine va_sld hx hb hX hbl hbA hS (vp_in_nI (by omega) (by omega)) dL_law_234 ?_
    rw [ha2]
    refine lv_aload_n hx hb dL_law_235 rfl (lv_at hl 5 rfl) ?_
    refine lv_iload hx hb dL_law_236 (lv_at hl 1 rfl) ?_
    refine lv_iconst (v := 3) hx hb dL_law_238 (by decide) ?_
    refine lv_iadd hx hb dL_law_239 ?_
    refine lv_topi (fun v7 ev7 => ?_)
    obtain rfl : v7 = nI (i5 + 3) := ev7.trans (nI_add i5 3)
    refine va_sld hx hb hX hbl hbA hS (vp_in_nI (by omega) (by omega)) dL_law_240 ?_
    rw [ha3]
    refine lv_if_eq (tgt := 248) hx hb dL_law_241 (by decide) (fun c8 => ?_) (fun c8 => ?_)
    · skip
      refine lv_iconst (v := 0) hx hb dL_law_248 (by decide) ?_
      refine zc2i (va_runV (As := [.int a1, .int a2, .int 0]) (rest := []) ⟨hx, hb, hml, hown, hts⟩ (c_X7_listen l dC dI cy G2 S2 H.size mo ad a1 a2 0 hM.1 hM.2.1 hM.2.2.1) (cwV 3 hts gL_law_X7_listen rfl rfl rfl (by decide +kernel) ⟨Nat.le_of_ble_eq_true rfl, Nat.le_of_ble_eq_true rfl⟩) (zpreV hK hP2 hD2 hN (zrecv7 hK hP2 hM.1.1)) rfl rfl hl.1 rfl (lv_room (Nat.le_of_ble_eq_true rfl)) dL_law_249 ⟨by show _ ≤ 777099; omega, by show _ ≤ 6764806; omega⟩) hS hD2 hA hP1 hAp.symm (fun r2 T2 H locs hm hP2 hD2 hP1 hAp hS => ?_)
      have hAp := hAp.symm
      obtain ⟨hC2, hv2⟩ := k_listen (v := a1) (id := a2) (b := 0) hC hw
      obtain ⟨hM2, hu2⟩ := m_listen hM hm
      have hR2 := hR.vw hv2 hu2
      refine lv_istore (lv' := [(6, .int r2), (5, .int k9), (4, .int (nI i5)), (3, .ref o), (2, .ref mo), (1, .ref x), (0, .ref b)]) hx hb dL_law_252 hl (by decide) rfl (fun ls hl => ?_)
      refine lv_goto (tgt := 784) hx hb dL_law_254 (by decide) ?_
      refine W.widen (k := cells + 3) (n := slots + 25) (by omega) (by omega) ?_
      exact kk _ _ _ _ _ _ ⟨⟨hP1, hD1, hP2, hD2, hAp⟩, hS, hC2, hM2, hR2⟩ (lv_sub hl [2, 3, 4, 5, 6] rfl)
    · skip
      exact absurd c4 c8
  · skip
    refine lv_iconst (v := 1) hx hb dL_law_211 (by decide) ?_
    refine lv_goto (tgt := 216) hx hb dL_law_212 (by decide) ?_
    refine lv_aload_n hx hb dL_law_216 rfl (lv_at hl 1 rfl) ?_
    refine zc2i (vx_runSW (As := [.ref x, .int a1, .int a2, .int 1, .ref o]) (rest := []) ⟨hx, hb, hml, hown, hts⟩ (w_L_listen l hlt dC dI cy G1 S1 H.size x f n sc ia na d ka va a1 a2 1 o hC.1 hC.2.1.1 hC.2.1.2) (vx_cwSW 5 hts gL_law_L_listen rfl rfl rfl (by decide +kernel) ⟨Nat.le_of_ble_eq_true rfl, Nat.le_of_ble_eq_true rfl⟩) (zpreSy hK hP1 hD1 hN hE hS hA hNc) rfl rfl hl.1 rfl (lv_room (Nat.le_of_ble_eq_true rfl)) dL_law_217 ⟨by show _ ≤ 777099; omega, by show _ ≤ 6764806; omega⟩) hS hD1 hA hP2 hAp (fun k9 T1 H locs hw hP1 hD1 hP2 hAp hS => ?_)
    refine lv_istore (lv' := [(5, .int k9), (4, .int (nI i5)), (3, .ref o), (2, .ref mo), (1, .ref x), (0, .ref b)]) hx hb dL_law_220 hl (by decide) rfl (fun ls hl => ?_)
    refine lv_aload_n hx hb dL_law_222 rfl (lv_at hl 3 rfl) ?_
    refine lv_aload_n hx hb dL_law_223 rfl (lv_at hl 5 rfl) ?_
    refine lv_iload hx hb dL_law_224 (lv_at hl 1 rfl) ?_
    refine lv_iconst (v := 1) hx hb dL_law_226 (by decide) ?_
    refine lv_iadd hx hb dL_law_227 ?_
    refine lv_topi (fun v9 ev9 => ?_)
    obtain rfl : v9 = nI (i5 + 1) := ev9.trans (nI_add i5 1)
    refine va_sld hx hb hX hbl hbA hS (vp_in_nI (by omega) (by omega)) dL_law_228 ?_
    rw [ha1]
    refine lv_aload_n hx hb dL_law_229 rfl (lv_at hl 5 rfl) ?_
    refine lv_iload hx hb dL_law_230 (lv_at hl 1 rfl) ?_
    refine lv_iconst (v := 2) hx hb dL_law_232 (by decide) ?_
    refine lv_iadd hx hb dL_law_233 ?_
    refine lv_topi (fun v10 ev10 => ?_)
    obtain rfl : v10 = nI (i5 + 2) := ev10.trans (nI_add i5 2)
    refine va_sld hx hb hX hbl hbA hS (vp_in_nI (by omega) (by omega)) dL_law_234 ?_
    rw [ha2]
    refine lv_aload_n hx hb dL_law_235 rfl (lv_at hl 5 rfl) ?_
    refine lv_iload hx hb dL_law_236 (lv_at hl 1 rfl) ?_
    refine lv_iconst (v := 3) hx hb dL_law_238 (by decide) ?_
    refine lv_iadd hx hb dL_law_239 ?_
    refine lv_topi (fun v11 ev11 => ?_)
    obtain rfl : v11 = nI (i5 + 3) := ev11.trans (nI_add i5 3)
    refine va_sld hx hb hX hbl hbA hS (vp_in_nI (by omega) (by omega)) dL_law_240 ?_
    rw [ha3]
    refine lv_if_eq (tgt := 248) hx hb dL_law_241 (by decide) (fun c12 => ?_) (fun c12 => ?_)
    · skip
      exact absurd c12 c4
    · skip
      refine lv_iconst (v := 1) hx hb dL_law_244 (by decide) ?_
      refine lv_goto (tgt := 249) hx hb dL_law_245 (by decide) ?_
      refine zc2i (va_runV (As := [.int a1, .int a2, .int 1]) (rest := []) ⟨hx, hb, hml, hown, hts⟩ (c_X7_listen l dC dI cy G2 S2 H.size mo ad a1 a2 1 hM.1 hM.2.1 hM.2.2.1) (cwV 3 hts gL_law_X7_listen rfl rfl rfl (by decide +kernel) ⟨Nat.le_of_ble_eq_true rfl, Nat.le_of_ble_eq_true rfl⟩) (zpreV hK hP2 hD2 hN (zrecv7 hK hP2 hM.1.1)) rfl rfl hl.1 rfl (lv_room (Nat.le_of_ble_eq_true rfl)) dL_law_249 ⟨by show _ ≤ 777099; omega, by show _ ≤ 6764806; omega⟩) hS hD2 hA hP1 hAp.symm (fun r2 T2 H locs hm hP2 hD2 hP1 hAp hS => ?_)
      have hAp := hAp.symm
      obtain ⟨hC2, hv2⟩ := k_listen (v := a1) (id := a2) (b := 1) hC hw
      obtain ⟨hM2, hu2⟩ := m_listen hM hm
      have hR2 := hR.vw hv2 hu2
      refine lv_istore (lv' := [(6, .int r2), (5, .int k9), (4, .int (nI i5)), (3, .ref o), (2, .ref mo), (1, .ref x), (0, .ref b)]) hx hb dL_law_252 hl (by decide) rfl (fun ls hl => ?_)
      refine lv_goto (tgt := 784) hx hb dL_law_254 (by decide) ?_
      refine W.widen (k := cells + 3) (n := slots + 25) (by omega) (by omega) ?_
      exact kk _ _ _ _ _ _ ⟨⟨hP1, hD1, hP2, hD2, hAp⟩, hS, hC2, hM2, hR2⟩ (lv_sub hl [2, 3, 4, 5, 6] rfl)
set_option maxHeartbeats 4000000 in
set_option maxRecDepth 100000 in
theorem q_status {p : Program} {l : Launch} {e : Env} {s : State} {m : MethodId} {args : Array Value} {below : List Frame} {meth : Method} {c : Code} {H : Heap} {locs : List Loc} {cells slots : Nat} {Q : State → Prop} {ls : Array Slot} {dC : Nat → ClassId} {dI : Nat → Nat → Nat} {cy : Nat → ClassId} {A : Nat → Prop} {b L : Nat} {xs : Nat → Int32} {x f n sc ia na d ka va o mo : Nat} {ad : Nat → Nat} {G1 G2 : zG} {S1 S2 : zS} {i5 : Nat} {a1 a2 a3 a4 : Int32} (C : zLc p l s m args c dC dI cy A b L xs) (hi5 : i5 + 5 ≤ L) (ha1 : xs (nI (i5 + 1)).toNatClampNeg = a1) (ha2 : xs (nI (i5 + 2)).toNatClampNeg = a2) (ha3 : xs (nI (i5 + 3)).toNatClampNeg = a3) (ha4 : xs (nI (i5 + 4)).toNatClampNeg = a4) (hce : cells + 3 ≤ 777099) (hse : slots + 25 ≤ 6764806) (h : zLw dC dI cy s A x f n sc ia na d ka va o mo ad G1 S1 G2 S2 H locs)
    (hl : lv_has ls 7 [(4, .int (nI i5)), (3, .ref o), (2, .ref mo), (1, .ref x), (0, .ref b)]) (kk : ∀ (G1' : zG) (S1' S2' : zS) (H' : Heap) (locs' : List Loc) (ls' : Array Slot), zLw dC dI cy s A x f n sc ia na d ka va o mo ad G1' S1' G2 S2' H' locs' → lv_has ls' 7 [(4, .int (nI i5)), (3, .ref o), (2, .ref mo), (1, .ref x), (0, .ref b)] → W p l e room_1 s m args below meth c H' locs' (cells + 3) (slots + 25) Q (F0 m 784 ls' [])) : W p l e room_1 s m args below meth c H locs cells slots Q (F0 m 257 ls []) := by
  obtain ⟨⟨hx, hb, hml, hown, hts⟩, ⟨hX, hbl, hbA, hL⟩, hA, hK, hN, hE, hNc, hlt⟩ := C
  obtain ⟨⟨hP1, hD1, hP2, hD2, hAp⟩, hS, hC, hM, hR⟩ := h
  refine lv_aload_n hx hb dL_law_257 rfl (lv_at hl 3 rfl) ?_
  refine lv_aload_n hx hb dL_law_258 rfl (lv_at hl 4 rfl) ?_
  refine lv_iload hx hb dL_law_259 (lv_at hl 0 rfl) ?_
  refine lv_iconst (v := 1) hx hb dL_law_261 (by decide) ?_
  refine lv_iadd hx hb dL_law_262 ?_
  refine lv_topi (fun v1 ev1 => ?_)
  obtain rfl : v1 = nI (i5 + 1) := ev1.trans (nI_add i5 1)
  refine va_sld hx hb hX hbl hbA hS (vp_in_nI (by omega) (by omega)) dL_law_263 ?_
  rw [ha1]
  refine lv_aload_n hx hb dL_law_264 rfl (lv_at hl 4 rfl) ?_
  refine lv_iload hx hb dL_law_265 (lv_at hl 0 rfl) ?_
  refine lv_iconst (v := 2) hx hb dL_law_267 (by decide) ?_
  refine lv_iadd hx hb dL_law_268 ?_
  refine lv_topi (fun v2 ev2 => ?_)
  obtain rfl : v2 = nI (i5 + 2) := ev2.trans (nI_add i5 2)
  refine va_sld hx hb hX hbl hbA hS (vp_in_nI (by omega) (by omega)) dL_law_269 ?_
  rw [ha2]
  refine lv_aload_n hx hb dL_law_270 rfl (lv_at hl 4 rfl) ?_
  refine lv_iload hx hb dL_law_271 (lv_at hl 0 rfl) ?_
  refine lv_iconst (v := 3) hx hb dL_law_273 (by decide) ?_
  refine lv_iadd hx hb dL_law_274 ?_
  refine lv_topi (fun v3 ev3 => ?_)
  obtain rfl : v3 = nI (i5 + 3) := ev3.trans (nI_add i5 3)
  refine va_sld hx hb hX hbl hbA hS (vp_in_nI (by omega) (by omega)) dL_law_275 ?_
  rw [ha3]
  refine lv_aload_n hx hb dL_law_276 rfl (lv_at hl 4 rfl) ?_
  refine lv_iload hx hb dL_law_277 (lv_at hl 0 rfl) ?_
  refine lv_iconst (v := 4) hx hb dL_law_279 (by decide) ?_
  refine lv_iadd hx hb dL_law_280 ?_
  refine lv_topi (fun v4 ev4 => ?_)
  obtain rfl : v4 = nI (i5 + 4) := ev4.trans (nI_add i5 4)
  refine va_sld hx hb hX hbl hbA hS (vp_in_nI (by omega) (by omega)) dL_law_281 ?_
  rw [ha4]
  refine zc2i (vx_runSW (As := [.ref x, .int a1, .int a2, .int a3, .int a4]) (rest := []) ⟨hx, hb, hml, hown, hts⟩ (w_L_status l hlt dC dI cy G1 S1 H.size x f n sc ia na d ka va a1 a2 a3 a4 hC.1) (vx_cwSW 5 hts gL_law_L_status rfl rfl rfl (by decide +kernel) ⟨Nat.le_of_ble_eq_true rfl, Nat.le_of_ble_eq_true rfl⟩) (zpreSy hK hP1 hD1 hN hE hS hA hNc) rfl rfl hl.1 rfl (lv_room (Nat.le_of_ble_eq_true rfl)) dL_law_282 ⟨by show _ ≤ 777099; omega, by show _ ≤ 6764806; omega⟩) hS hD1 hA hP2 hAp (fun k9 T1 H locs hw hP1 hD1 hP2 hAp hS => ?_)
  refine lv_istore (lv' := [(5, .int k9), (4, .int (nI i5)), (3, .ref o), (2, .ref mo), (1, .ref x), (0, .ref b)]) hx hb dL_law_285 hl (by decide) rfl (fun ls hl => ?_)
  refine lv_aload_n hx hb dL_law_287 rfl (lv_at hl 3 rfl) ?_
  refine lv_aload_n hx hb dL_law_288 rfl (lv_at hl 5 rfl) ?_
  refine lv_iload hx hb dL_law_289 (lv_at hl 1 rfl) ?_
  refine lv_iconst (v := 1) hx hb dL_law_291 (by decide) ?_
  refine lv_iadd hx hb dL_law_292 ?_
  refine lv_topi (fun v5 ev5 => ?_)
  obtain rfl : v5 = nI (i5 + 1) := ev5.trans (nI_add i5 1)
  refine va_sld hx hb hX hbl hbA hS (vp_in_nI (by omega) (by omega)) dL_law_293 ?_
  rw [ha1]
  refine lv_aload_n hx hb dL_law_294 rfl (lv_at hl 5 rfl) ?_
  refine lv_iload hx hb dL_law_295 (lv_at hl 1 rfl) ?_
  refine lv_iconst (v := 2) hx hb dL_law_297 (by decide) ?_
  refine lv_iadd hx hb dL_law_298 ?_
  refine lv_topi (fun v6 ev6 => ?_)
  obtain rfl : v6 = nI (i5 + 2) := ev6.trans (nI_add i5 2)
  refine va_sld hx hb hX hbl hbA hS (vp_in_nI (by omega) (by omega)) dL_law_299 ?_
  rw [ha2]
  refine lv_aload_n hx hb dL_law_300 rfl (lv_at hl 5 rfl) ?_
  refine lv_iload hx hb dL_law_301 (lv_at hl 1 rfl) ?_
  refine lv_iconst (v := 3) hx hb dL_law_303 (by decide) ?_
  refine lv_iadd hx hb dL_law_304 ?_
  refine lv_topi (fun v7 ev7 => ?_)
  obtain rfl : v7 = nI (i5 + 3) := ev7.trans (nI_add i5 3)
  refine va_sld hx hb hX hbl hbA hS (vp_in_nI (by omega) (by omega)) dL_law_305 ?_
  rw [ha3]
  refine lv_aload_n hx hb dL_law_306 rfl (lv_at hl 5 rfl) ?_
  refine lv_iload hx hb dL_law_307 (lv_at hl 1 rfl) ?_
  refine lv_iconst (v := 4) hx hb dL_law_309 (by decide) ?_
  refine lv_iadd hx hb dL_law_310 ?_
  refine lv_topi (fun v8 ev8 => ?_)
  obtain rfl : v8 = nI (i5 + 4) := ev8.trans (nI_add i5 4)
  refine va_sld hx hb hX hbl hbA hS (vp_in_nI (by omega) (by omega)) dL_law_311 ?_
  rw [ha4]
  refine zc2v (va_runV (As := [.int a1, .int a2, .int a3, .int a4]) (rest := []) ⟨hx, hb, hml, hown, hts⟩ (c_X7_status l dC dI cy G2 S2 H.size mo ad a1 a2 a3 a4 hM.1 hM.2.1) (cwV 4 hts gL_law_X7_status rfl rfl rfl (by decide +kernel) ⟨Nat.le_of_ble_eq_true rfl, Nat.le_of_ble_eq_true rfl⟩) (zpreV hK hP2 hD2 hN (zrecv7 hK hP2 hM.1.1)) rfl rfl hl.1 rfl (lv_room (Nat.le_of_ble_eq_true rfl)) dL_law_312 ⟨by show _ ≤ 777099; omega, by show _ ≤ 6764806; omega⟩) hS hD2 hA hP1 hAp.symm (fun T2 H locs hm hP2 hD2 hP1 hAp hS => ?_)
  have hAp := hAp.symm
  obtain ⟨hC2, hM2, hR2, he2⟩ := s_status hC hM hR hw hm
  refine lv_goto (tgt := 784) hx hb dL_law_315 (by decide) ?_
  refine W.widen (k := cells + 3) (n := slots + 25) (by omega) (by omega) ?_
  exact kk _ _ _ _ _ _ ⟨⟨hP1, hD1, hP2, hD2, hAp⟩, hS, hC2, hM2, hR2⟩ (lv_sub hl [1, 2, 3, 4, 5] rfl)
set_option maxHeartbeats 4000000 in
set_option maxRecDepth 100000 in
theorem q_space {p : Program} {l : Launch} {e : Env} {s : State} {m : MethodId} {args : Array Value} {below : List Frame} {meth : Method} {c : Code} {H : Heap} {locs : List Loc} {cells slots : Nat} {Q : State → Prop} {ls : Array Slot} {dC : Nat → ClassId} {dI : Nat → Nat → Nat} {cy : Nat → ClassId} {A : Nat → Prop} {b L : Nat} {xs : Nat → Int32} {x f n sc ia na d ka va o mo : Nat} {ad : Nat → Nat} {G1 G2 : zG} {S1 S2 : zS} {i5 : Nat} {a1 a2 a3 a4 : Int32} (C : zLc p l s m args c dC dI cy A b L xs) (hi5 : i5 + 5 ≤ L) (ha1 : xs (nI (i5 + 1)).toNatClampNeg = a1) (ha2 : xs (nI (i5 + 2)).toNatClampNeg = a2) (ha3 : xs (nI (i5 + 3)).toNatClampNeg = a3) (ha4 : xs (nI (i5 + 4)).toNatClampNeg = a4) (hce : cells + 3 ≤ 777099) (hse : slots + 25 ≤ 6764806) (h : zLw dC dI cy s A x f n sc ia na d ka va o mo ad G1 S1 G2 S2 H locs)
    (hl : lv_has ls 7 [(4, .int (nI i5)), (3, .ref o), (2, .ref mo), (1, .ref x), (0, .ref b)]) (kk : ∀ (G1' : zG) (S1' S2' : zS) (H' : Heap) (locs' : List Loc) (ls' : Array Slot), zLw dC dI cy s A x f n sc ia na d ka va o mo ad G1' S1' G2 S2' H' locs' → lv_has ls' 7 [(4, .int (nI i5)), (3, .ref o), (2, .ref mo), (1, .ref x), (0, .ref b)] → W p l e room_1 s m args below meth c H' locs' (cells + 3) (slots + 25) Q (F0 m 784 ls' [])) : W p l e room_1 s m args below meth c H locs cells slots Q (F0 m 318 ls []) := by
  obtain ⟨⟨hx, hb, hml, hown, hts⟩, ⟨hX, hbl, hbA, hL⟩, hA, hK, hN, hE, hNc, hlt⟩ := C
  obtain ⟨⟨hP1, hD1, hP2, hD2, hAp⟩, hS, hC, hM, hR⟩ := h
  refine lv_aload_n hx hb dL_law_318 rfl (lv_at hl 3 rfl) ?_
  refine lv_aload_n hx hb dL_law_319 rfl (lv_at hl 4 rfl) ?_
  refine lv_iload hx hb dL_law_320 (lv_at hl 0 rfl) ?_
  refine lv_iconst (v := 1) hx hb dL_law_322 (by decide) ?_
  refine lv_iadd hx hb dL_law_323 ?_
  refine lv_topi (fun v1 ev1 => ?_)
  obtain rfl : v1 = nI (i5 + 1) := ev1.trans (nI_add i5 1)
  refine va_sld hx hb hX hbl hbA hS (vp_in_nI (by omega) (by omega)) dL_law_324 ?_
  rw [ha1]
  refine lv_aload_n hx hb dL_law_325 rfl (lv_at hl 4 rfl) ?_
  refine lv_iload hx hb dL_law_326 (lv_at hl 0 rfl) ?_
  refine lv_iconst (v := 2) hx hb dL_law_328 (by decide) ?_
  refine lv_iadd hx hb dL_law_329 ?_
  refine lv_topi (fun v2 ev2 => ?_)
  obtain rfl : v2 = nI (i5 + 2) := ev2.trans (nI_add i5 2)
  refine va_sld hx hb hX hbl hbA hS (vp_in_nI (by omega) (by omega)) dL_law_330 ?_
  rw [ha2]
  refine lv_aload_n hx hb dL_law_331 rfl (lv_at hl 1 rfl) ?_
  refine zc2i (vx_runSW (As := [.ref x, .int a1, .int a2, .ref o]) (rest := []) ⟨hx, hb, hml, hown, hts⟩ (w_L_space l hlt dC dI cy G1 S1 H.size x f n sc ia na d ka va a1 a2 o hC.1 hC.2.1.1 hC.2.1.2) (vx_cwSW 4 hts gL_law_L_space rfl rfl rfl (by decide +kernel) ⟨Nat.le_of_ble_eq_true rfl, Nat.le_of_ble_eq_true rfl⟩) (zpreSy hK hP1 hD1 hN hE hS hA hNc) rfl rfl hl.1 rfl (lv_room (Nat.le_of_ble_eq_true rfl)) dL_law_332 ⟨by show _ ≤ 777099; omega, by show _ ≤ 6764806; omega⟩) hS hD1 hA hP2 hAp (fun k9 T1 H locs hw hP1 hD1 hP2 hAp hS => ?_)
  refine lv_istore (lv' := [(5, .int k9), (4, .int (nI i5)), (3, .ref o), (2, .ref mo), (1, .ref x), (0, .ref b)]) hx hb dL_law_335 hl (by decide) rfl (fun ls hl => ?_)
  refine lv_aload_n hx hb dL_law_337 rfl (lv_at hl 3 rfl) ?_
  refine lv_aload_n hx hb dL_law_338 rfl (lv_at hl 5 rfl) ?_
  refine lv_iload hx hb dL_law_339 (lv_at hl 1 rfl) ?_
  refine lv_iconst (v := 1) hx hb dL_law_341 (by decide) ?_
  refine lv_iadd hx hb dL_law_342 ?_
  refine lv_topi (fun v3 ev3 => ?_)
  obtain rfl : v3 = nI (i5 + 1) := ev3.trans (nI_add i5 1)
  refine va_sld hx hb hX hbl hbA hS (vp_in_nI (by omega) (by omega)) dL_law_343 ?_
  rw [ha1]
  refine lv_aload_n hx hb dL_law_344 rfl (lv_at hl 5 rfl) ?_
  refine lv_iload hx hb dL_law_345 (lv_at hl 1 rfl) ?_
  refine lv_iconst (v := 2) hx hb dL_law_347 (by decide) ?_
  refine lv_iadd hx hb dL_law_348 ?_
  refine lv_topi (fun v4 ev4 => ?_)
  obtain rfl : v4 = nI (i5 + 2) := ev4.trans (nI_add i5 2)
  refine va_sld hx hb hX hbl hbA hS (vp_in_nI (by omega) (by omega)) dL_law_349 ?_
  rw [ha2]
  refine zc2i (va_runV (As := [.int a1, .int a2]) (rest := []) ⟨hx, hb, hml, hown, hts⟩ (c_X7_space l dC dI cy G2 S2 H.size mo ad a1 a2 hM.1 hM.2.1) (cwV 2 hts gL_law_X7_space rfl rfl rfl (by decide +kernel) ⟨Nat.le_of_ble_eq_true rfl, Nat.le_of_ble_eq_true rfl⟩) (zpreV hK hP2 hD2 hN (zrecv7 hK hP2 hM.1.1)) rfl rfl hl.1 rfl (lv_room (Nat.le_of_ble_eq_true rfl)) dL_law_350 ⟨by show _ ≤ 777099; omega, by show _ ≤ 6764806; omega⟩) hS hD2 hA hP1 hAp.symm (fun r2 T2 H locs hm hP2 hD2 hP1 hAp hS => ?_)
  have hAp := hAp.symm
  obtain ⟨hC2, hM2, hR2, he2, ho2⟩ := s_space hC hM hR hw hm
  refine lv_istore (lv' := [(6, .int r2), (5, .int k9), (4, .int (nI i5)), (3, .ref o), (2, .ref mo), (1, .ref x), (0, .ref b)]) hx hb dL_law_353 hl (by decide) rfl (fun ls hl => ?_)
  refine lv_goto (tgt := 784) hx hb dL_law_355 (by decide) ?_
  refine W.widen (k := cells + 3) (n := slots + 25) (by omega) (by omega) ?_
  exact kk _ _ _ _ _ _ ⟨⟨hP1, hD1, hP2, hD2, hAp⟩, hS, hC2, hM2, hR2⟩ (lv_sub hl [2, 3, 4, 5, 6] rfl)
set_option maxHeartbeats 4000000 in
set_option maxRecDepth 100000 in
theorem q_slot {p : Program} {l : Launch} {e : Env} {s : State} {m : MethodId} {args : Array Value} {below : List Frame} {meth : Method} {c : Code} {H : Heap} {locs : List Loc} {cells slots : Nat} {Q : State → Prop} {ls : Array Slot} {dC : Nat → ClassId} {dI : Nat → Nat → Nat} {cy : Nat → ClassId} {A : Nat → Prop} {b L : Nat} {xs : Nat → Int32} {x f n sc ia na d ka va o mo : Nat} {ad : Nat → Nat} {G1 G2 : zG} {S1 S2 : zS} {i5 : Nat} {a1 a2 a3 a4 : Int32} (C : zLc p l s m args c dC dI cy A b L xs) (hi5 : i5 + 5 ≤ L) (ha1 : xs (nI (i5 + 1)).toNatClampNeg = a1) (ha2 : xs (nI (i5 + 2)).toNatClampNeg = a2) (ha3 : xs (nI (i5 + 3)).toNatClampNeg = a3) (ha4 : xs (nI (i5 + 4)).toNatClampNeg = a4) (hce : cells + 3 ≤ 777099) (hse : slots + 25 ≤ 6764806) (h : zLw dC dI cy s A x f n sc ia na d ka va o mo ad G1 S1 G2 S2 H locs)
    (hl : lv_has ls 7 [(4, .int (nI i5)), (3, .ref o), (2, .ref mo), (1, .ref x), (0, .ref b)]) (kk : ∀ (G1' : zG) (S1' S2' : zS) (H' : Heap) (locs' : List Loc) (ls' : Array Slot), zLw dC dI cy s A x f n sc ia na d ka va o mo ad G1' S1' G2 S2' H' locs' → lv_has ls' 7 [(4, .int (nI i5)), (3, .ref o), (2, .ref mo), (1, .ref x), (0, .ref b)] → W p l e room_1 s m args below meth c H' locs' (cells + 3) (slots + 25) Q (F0 m 784 ls' [])) : W p l e room_1 s m args below meth c H locs cells slots Q (F0 m 358 ls []) := by
  obtain ⟨⟨hx, hb, hml, hown, hts⟩, ⟨hX, hbl, hbA, hL⟩, hA, hK, hN, hE, hNc, hlt⟩ := C
  obtain ⟨⟨hP1, hD1, hP2, hD2, hAp⟩, hS, hC, hM, hR⟩ := h
  have hsl : ∃ q, q ≤ 16 ∧ S1.1 sc 2 = nI q := by rw [hR.2.1]; exact hM.2.1.2.1
  refine lv_aload_n hx hb dL_law_358 rfl (lv_at hl 3 rfl) ?_
  refine lv_aload_n hx hb dL_law_359 rfl (lv_at hl 4 rfl) ?_
  refine lv_iload hx hb dL_law_360 (lv_at hl 0 rfl) ?_
  refine lv_iconst (v := 1) hx hb dL_law_362 (by decide) ?_
  refine lv_iadd hx hb dL_law_363 ?_
  refine lv_topi (fun v1 ev1 => ?_)
  obtain rfl : v1 = nI (i5 + 1) := ev1.trans (nI_add i5 1)
  refine va_sld hx hb hX hbl hbA hS (vp_in_nI (by omega) (by omega)) dL_law_364 ?_
  rw [ha1]
  refine lv_aload_n hx hb dL_law_365 rfl (lv_at hl 4 rfl) ?_
  refine lv_iload hx hb dL_law_366 (lv_at hl 0 rfl) ?_
  refine lv_iconst (v := 2) hx hb dL_law_368 (by decide) ?_
  refine lv_iadd hx hb dL_law_369 ?_
  refine lv_topi (fun v2 ev2 => ?_)
  obtain rfl : v2 = nI (i5 + 2) := ev2.trans (nI_add i5 2)
  refine va_sld hx hb hX hbl hbA hS (vp_in_nI (by omega) (by omega)) dL_law_370 ?_
  rw [ha2]
  refine lv_aload_n hx hb dL_law_371 rfl (lv_at hl 1 rfl) ?_
  refine zc2i (vx_runSW (As := [.ref x, .int a1, .int a2, .ref o]) (rest := []) ⟨hx, hb, hml, hown, hts⟩ (w_L_slot l hlt dC dI cy G1 S1 H.size x f n sc ia na d ka va a1 a2 o hC.1 hsl hC.2.1.1 hC.2.1.2) (vx_cwSW 4 hts gL_law_L_slot rfl rfl rfl (by decide +kernel) ⟨Nat.le_of_ble_eq_true rfl, Nat.le_of_ble_eq_true rfl⟩) (zpreSy hK hP1 hD1 hN hE hS hA hNc) rfl rfl hl.1 rfl (lv_room (Nat.le_of_ble_eq_true rfl)) dL_law_372 ⟨by show _ ≤ 777099; omega, by show _ ≤ 6764806; omega⟩) hS hD1 hA hP2 hAp (fun k9 T1 H locs hw hP1 hD1 hP2 hAp hS => ?_)
  refine lv_istore (lv' := [(5, .int k9), (4, .int (nI i5)), (3, .ref o), (2, .ref mo), (1, .ref x), (0, .ref b)]) hx hb dL_law_375 hl (by decide) rfl (fun ls hl => ?_)
  refine lv_aload_n hx hb dL_law_377 rfl (lv_at hl 3 rfl) ?_
  refine lv_aload_n hx hb dL_law_378 rfl (lv_at hl 5 rfl) ?_
  refine lv_iload hx hb dL_law_379 (lv_at hl 1 rfl) ?_
  refine lv_iconst (v := 1) hx hb dL_law_381 (by decide) ?_
  refine lv_iadd hx hb dL_law_382 ?_
  refine lv_topi (fun v3 ev3 => ?_)
  obtain rfl : v3 = nI (i5 + 1) := ev3.trans (nI_add i5 1)
  refine va_sld hx hb hX hbl hbA hS (vp_in_nI (by omega) (by omega)) dL_law_383 ?_
  rw [ha1]
  refine lv_aload_n hx hb dL_law_384 rfl (lv_at hl 5 rfl) ?_
  refine lv_iload hx hb dL_law_385 (lv_at hl 1 rfl) ?_
  refine lv_iconst (v := 2) hx hb dL_law_387 (by decide) ?_
  refine lv_iadd hx hb dL_law_388 ?_
  refine lv_topi (fun v4 ev4 => ?_)
  obtain rfl : v4 = nI (i5 + 2) := ev4.trans (nI_add i5 2)
  refine va_sld hx hb hX hbl hbA hS (vp_in_nI (by omega) (by omega)) dL_law_389 ?_
  rw [ha2]
  refine zc2i (va_runV (As := [.int a1, .int a2]) (rest := []) ⟨hx, hb, hml, hown, hts⟩ (c_X7_slot l dC dI cy G2 S2 H.size mo ad a1 a2 hM.1 hM.2.1) (cwV 2 hts gL_law_X7_slot rfl rfl rfl (by decide +kernel) ⟨Nat.le_of_ble_eq_true rfl, Nat.le_of_ble_eq_true rfl⟩) (zpreV hK hP2 hD2 hN (zrecv7 hK hP2 hM.1.1)) rfl rfl hl.1 rfl (lv_room (Nat.le_of_ble_eq_true rfl)) dL_law_390 ⟨by show _ ≤ 777099; omega, by show _ ≤ 6764806; omega⟩) hS hD2 hA hP1 hAp.symm (fun r2 T2 H locs hm hP2 hD2 hP1 hAp hS => ?_)
  have hAp := hAp.symm
  obtain ⟨hC2, hM2, hR2, he2, ho2⟩ := s_slot hC hM hR hw hm
  refine lv_istore (lv' := [(6, .int r2), (5, .int k9), (4, .int (nI i5)), (3, .ref o), (2, .ref mo), (1, .ref x), (0, .ref b)]) hx hb dL_law_393 hl (by decide) rfl (fun ls hl => ?_)
  refine lv_aload_n hx hb dL_law_395 rfl (lv_at hl 4 rfl) ?_
  refine vp_callSi (va_Run.run (va_runV (As := []) (rest := []) ⟨hx, hb, hml, hown, hts⟩ (c_X7_thrown l dC dI cy G2 T2 H.size mo ad hM2.1) (cwV 0 hts gL_law_X7_thrown rfl rfl rfl (by decide +kernel) ⟨Nat.le_of_ble_eq_true rfl, Nat.le_of_ble_eq_true rfl⟩) (zpreV hK hP2 hD2 hN (zrecv7 hK hP2 hM2.1.1)) rfl rfl hl.1 rfl (lv_room (Nat.le_of_ble_eq_true rfl)) dL_law_396 ⟨by show _ ≤ 777099; omega, by show _ ≤ 6764806; omega⟩)) (fun r9 hr9 => ?_)
  refine lv_iload hx hb dL_law_399 (lv_at hl 1 rfl) ?_
  refine lv_icmp_eq (tgt := 406) hx hb dL_law_401 (by decide) (fun c5 => ?_) (fun c5 => ?_)
  · skip
    refine lv_iload hx hb dL_law_406 (lv_at hl 1 rfl) ?_
    refine lv_if_ne (tgt := 423) hx hb dL_law_408 (by decide) (fun c6 => ?_) (fun c6 => ?_)
    · skip
      refine lv_goto (tgt := 784) hx hb dL_law_423 (by decide) ?_
      refine W.widen (k := cells + 3) (n := slots + 25) (by omega) (by omega) ?_
      exact kk _ _ _ _ _ _ ⟨⟨hP1, hD1, hP2, hD2, hAp⟩, hS, hC2, hM2, hR2⟩ (lv_sub hl [2, 3, 4, 5, 6] rfl)
    · skip
      refine lv_aload_n hx hb dL_law_411 rfl (lv_at hl 3 rfl) ?_
      refine lv_iconst (v := 0) hx hb dL_law_412 (by decide) ?_
      have hP := hP1
      refine zlald hx hb hK hP hC2.2.1.1 hC2.2.1.2 (by unfold vp_in; decide) dL_law_413 ?_
      refine lv_topl (fun v7 ev7 => ?_)
      refine lv_iload hx hb dL_law_414 (lv_at hl 0 rfl) ?_
      refine lv_i2l hx hb dL_law_416 rfl ?_
      refine lv_topl (fun v8 ev8 => ?_)
      refine W.lcmp hx hb dL_law_417 ?_
      refine lv_topi (fun v9 ev9 => ?_)
      refine lv_if_eq (tgt := 423) hx hb dL_law_418 (by decide) (fun c10 => ?_) (fun c10 => ?_)
      · skip
        refine lv_goto (tgt := 784) hx hb dL_law_423 (by decide) ?_
        refine W.widen (k := cells + 3) (n := slots + 25) (by omega) (by omega) ?_
        exact kk _ _ _ _ _ _ ⟨⟨hP1, hD1, hP2, hD2, hAp⟩, hS, hC2, hM2, hR2⟩ (lv_sub hl [2, 3, 4, 5, 6] rfl)
      · skip
        exact absurd (ev9.trans (zcmp0 (ev7.trans ((ho2 c6).trans ev8.symm)))) c10
  · skip
    exact absurd (hr9.trans he2) c5
set_option maxHeartbeats 4000000 in
set_option maxRecDepth 100000 in
theorem q_write {p : Program} {l : Launch} {e : Env} {s : State} {m : MethodId} {args : Array Value} {below : List Frame} {meth : Method} {c : Code} {H : Heap} {locs : List Loc} {cells slots : Nat} {Q : State → Prop} {ls : Array Slot} {dC : Nat → ClassId} {dI : Nat → Nat → Nat} {cy : Nat → ClassId} {A : Nat → Prop} {b L : Nat} {xs : Nat → Int32} {x f n sc ia na d ka va o mo : Nat} {ad : Nat → Nat} {G1 G2 : zG} {S1 S2 : zS} {i5 : Nat} {a1 a2 a3 a4 : Int32} (C : zLc p l s m args c dC dI cy A b L xs) (hi5 : i5 + 5 ≤ L) (ha1 : xs (nI (i5 + 1)).toNatClampNeg = a1) (ha2 : xs (nI (i5 + 2)).toNatClampNeg = a2) (ha3 : xs (nI (i5 + 3)).toNatClampNeg = a3) (ha4 : xs (nI (i5 + 4)).toNatClampNeg = a4) (hce : cells + 3 ≤ 777099) (hse : slots + 25 ≤ 6764806) (h : zLw dC dI cy s A x f n sc ia na d ka va o mo ad G1 S1 G2 S2 H locs)
    (hl : lv_has ls 7 [(4, .int (nI i5)), (3, .ref o), (2, .ref mo), (1, .ref x), (0, .ref b)]) (kk : ∀ (G1' : zG) (S1' S2' : zS) (H' : Heap) (locs' : List Loc) (ls' : Array Slot), zLw dC dI cy s A x f n sc ia na d ka va o mo ad G1' S1' G2 S2' H' locs' → lv_has ls' 7 [(4, .int (nI i5)), (3, .ref o), (2, .ref mo), (1, .ref x), (0, .ref b)] → W p l e room_1 s m args below meth c H' locs' (cells + 3) (slots + 25) Q (F0 m 784 ls' [])) : W p l e room_1 s m args below meth c H locs cells slots Q (F0 m 426 ls []) := by
  obtain ⟨⟨hx, hb, hml, hown, hts⟩, ⟨hX, hbl, hbA, hL⟩, hA, hK, hN, hE, hNc, hlt⟩ := C
  obtain ⟨⟨hP1, hD1, hP2, hD2, hAp⟩, hS, hC, hM, hR⟩ := h
  refine lv_aload_n hx hb dL_law_426 rfl (lv_at hl 3 rfl) ?_
  refine lv_aload_n hx hb dL_law_427 rfl (lv_at hl 4 rfl) ?_
  refine lv_iload hx hb dL_law_428 (lv_at hl 0 rfl) ?_
  refine lv_iconst (v := 1) hx hb dL_law_430 (by decide) ?_
  refine lv_iadd hx hb dL_law_431 ?_
  refine lv_topi (fun v1 ev1 => ?_)
  obtain rfl : v1 = nI (i5 + 1) := ev1.trans (nI_add i5 1)
  refine va_sld hx hb hX hbl hbA hS (vp_in_nI (by omega) (by omega)) dL_law_432 ?_
  rw [ha1]
  refine lv_aload_n hx hb dL_law_433 rfl (lv_at hl 4 rfl) ?_
  refine lv_iload hx hb dL_law_434 (lv_at hl 0 rfl) ?_
  refine lv_iconst (v := 2) hx hb dL_law_436 (by decide) ?_
  refine lv_iadd hx hb dL_law_437 ?_
  refine lv_topi (fun v2 ev2 => ?_)
  obtain rfl : v2 = nI (i5 + 2) := ev2.trans (nI_add i5 2)
  refine va_sld hx hb hX hbl hbA hS (vp_in_nI (by omega) (by omega)) dL_law_438 ?_
  rw [ha2]
  refine lv_aload_n hx hb dL_law_439 rfl (lv_at hl 4 rfl) ?_
  refine lv_iload hx hb dL_law_440 (lv_at hl 0 rfl) ?_
  refine lv_iconst (v := 3) hx hb dL_law_442 (by decide) ?_
  refine lv_iadd hx hb dL_law_443 ?_
  refine lv_topi (fun v3 ev3 => ?_)
  obtain rfl : v3 = nI (i5 + 3) := ev3.trans (nI_add i5 3)
  refine va_sld hx hb hX hbl hbA hS (vp_in_nI (by omega) (by omega)) dL_law_444 ?_
  rw [ha3]
  refine lv_aload_n hx hb dL_law_445 rfl (lv_at hl 1 rfl) ?_
  refine zc2i (vx_runSW (As := [.ref x, .int a1, .int a2, .int a3, .ref o]) (rest := []) ⟨hx, hb, hml, hown, hts⟩ (w_L_write l hlt dC dI cy G1 S1 H.size x f n sc ia na d ka va a1 a2 a3 o hC.1 hC.2.1.1 hC.2.1.2) (vx_cwSW 5 hts gL_law_L_write rfl rfl rfl (by decide +kernel) ⟨Nat.le_of_ble_eq_true rfl, Nat.le_of_ble_eq_true rfl⟩) (zpreSy hK hP1 hD1 hN hE hS hA hNc) rfl rfl hl.1 rfl (lv_room (Nat.le_of_ble_eq_true rfl)) dL_law_446 ⟨by show _ ≤ 777099; omega, by show _ ≤ 6764806; omega⟩) hS hD1 hA hP2 hAp (fun k9 T1 H locs hw hP1 hD1 hP2 hAp hS => ?_)
  refine lv_istore (lv' := [(5, .int k9), (4, .int (nI i5)), (3, .ref o), (2, .ref mo), (1, .ref x), (0, .ref b)]) hx hb dL_law_449 hl (by decide) rfl (fun ls hl => ?_)
  refine lv_aload_n hx hb dL_law_451 rfl (lv_at hl 3 rfl) ?_
  refine lv_aload_n hx hb dL_law_452 rfl (lv_at hl 5 rfl) ?_
  refine lv_iload hx hb dL_law_453 (lv_at hl 1 rfl) ?_
  refine lv_iconst (v := 1) hx hb dL_law_455 (by decide) ?_
  refine lv_iadd hx hb dL_law_456 ?_
  refine lv_topi (fun v4 ev4 => ?_)
  obtain rfl : v4 = nI (i5 + 1) := ev4.trans (nI_add i5 1)
  refine va_sld hx hb hX hbl hbA hS (vp_in_nI (by omega) (by omega)) dL_law_457 ?_
  rw [ha1]
  refine lv_aload_n hx hb dL_law_458 rfl (lv_at hl 5 rfl) ?_
  refine lv_iload hx hb dL_law_459 (lv_at hl 1 rfl) ?_
  refine lv_iconst (v := 2) hx hb dL_law_461 (by decide) ?_
  refine lv_iadd hx hb dL_law_462 ?_
  refine lv_topi (fun v5 ev5 => ?_)
  obtain rfl : v5 = nI (i5 + 2) := ev5.trans (nI_add i5 2)
  refine va_sld hx hb hX hbl hbA hS (vp_in_nI (by omega) (by omega)) dL_law_463 ?_
  rw [ha2]
  refine lv_aload_n hx hb dL_law_464 rfl (lv_at hl 5 rfl) ?_
  refine lv_iload hx hb dL_law_465 (lv_at hl 1 rfl) ?_
  refine lv_iconst (v := 3) hx hb dL_law_467 (by decide) ?_
  refine lv_iadd hx hb dL_law_468 ?_
  refine lv_topi (fun v6 ev6 => ?_)
  obtain rfl : v6 = nI (i5 + 3) := ev6.trans (nI_add i5 3)
  refine va_sld hx hb hX hbl hbA hS (vp_in_nI (by omega) (by omega)) dL_law_469 ?_
  rw [ha3]
  refine zc2i (va_runV (As := [.int a1, .int a2, .int a3]) (rest := []) ⟨hx, hb, hml, hown, hts⟩ (c_X7_write l dC dI cy G2 S2 H.size mo ad a1 a2 a3 hM.1 hM.2.1) (cwV 3 hts gL_law_X7_write rfl rfl rfl (by decide +kernel) ⟨Nat.le_of_ble_eq_true rfl, Nat.le_of_ble_eq_true rfl⟩) (zpreV hK hP2 hD2 hN (zrecv7 hK hP2 hM.1.1)) rfl rfl hl.1 rfl (lv_room (Nat.le_of_ble_eq_true rfl)) dL_law_470 ⟨by show _ ≤ 777099; omega, by show _ ≤ 6764806; omega⟩) hS hD2 hA hP1 hAp.symm (fun r2 T2 H locs hm hP2 hD2 hP1 hAp hS => ?_)
  have hAp := hAp.symm
  obtain ⟨hC2, hv2⟩ := k_write (id := a1) (b := a2) (v := a3) hC hw
  obtain ⟨hM2, hu2⟩ := m_write hM hm
  have hR2 := hR.vw hv2 hu2
  refine lv_istore (lv' := [(6, .int r2), (5, .int k9), (4, .int (nI i5)), (3, .ref o), (2, .ref mo), (1, .ref x), (0, .ref b)]) hx hb dL_law_473 hl (by decide) rfl (fun ls hl => ?_)
  refine lv_goto (tgt := 784) hx hb dL_law_475 (by decide) ?_
  refine W.widen (k := cells + 3) (n := slots + 25) (by omega) (by omega) ?_
  exact kk _ _ _ _ _ _ ⟨⟨hP1, hD1, hP2, hD2, hAp⟩, hS, hC2, hM2, hR2⟩ (lv_sub hl [2, 3, 4, 5, 6] rfl)
set_option maxHeartbeats 4000000 in
set_option maxRecDepth 100000 in
theorem q_disturb {p : Program} {l : Launch} {e : Env} {s : State} {m : MethodId} {args : Array Value} {below : List Frame} {meth : Method} {c : Code} {H : Heap} {locs : List Loc} {cells slots : Nat} {Q : State → Prop} {ls : Array Slot} {dC : Nat → ClassId} {dI : Nat → Nat → Nat} {cy : Nat → ClassId} {A : Nat → Prop} {b L : Nat} {xs : Nat → Int32} {x f n sc ia na d ka va o mo : Nat} {ad : Nat → Nat} {G1 G2 : zG} {S1 S2 : zS} {i5 : Nat} {a1 a2 a3 a4 : Int32} (C : zLc p l s m args c dC dI cy A b L xs) (hi5 : i5 + 5 ≤ L) (ha1 : xs (nI (i5 + 1)).toNatClampNeg = a1) (ha2 : xs (nI (i5 + 2)).toNatClampNeg = a2) (ha3 : xs (nI (i5 + 3)).toNatClampNeg = a3) (ha4 : xs (nI (i5 + 4)).toNatClampNeg = a4) (hce : cells + 3 ≤ 777099) (hse : slots + 25 ≤ 6764806) (h : zLw dC dI cy s A x f n sc ia na d ka va o mo ad G1 S1 G2 S2 H locs)
    (hl : lv_has ls 7 [(4, .int (nI i5)), (3, .ref o), (2, .ref mo), (1, .ref x), (0, .ref b)]) (kk : ∀ (G1' : zG) (S1' S2' : zS) (H' : Heap) (locs' : List Loc) (ls' : Array Slot), zLw dC dI cy s A x f n sc ia na d ka va o mo ad G1' S1' G2 S2' H' locs' → lv_has ls' 7 [(4, .int (nI i5)), (3, .ref o), (2, .ref mo), (1, .ref x), (0, .ref b)] → W p l e room_1 s m args below meth c H' locs' (cells + 3) (slots + 25) Q (F0 m 784 ls' [])) : W p l e room_1 s m args below meth c H locs cells slots Q (F0 m 478 ls []) := by
  obtain ⟨⟨hx, hb, hml, hown, hts⟩, ⟨hX, hbl, hbA, hL⟩, hA, hK, hN, hE, hNc, hlt⟩ := C
  obtain ⟨⟨hP1, hD1, hP2, hD2, hAp⟩, hS, hC, hM, hR⟩ := h
  refine lv_aload_n hx hb dL_law_478 rfl (lv_at hl 3 rfl) ?_
  refine lv_aload_n hx hb dL_law_479 rfl (lv_at hl 4 rfl) ?_
  refine lv_iload hx hb dL_law_480 (lv_at hl 0 rfl) ?_
  refine lv_iconst (v := 1) hx hb dL_law_482 (by decide) ?_
  refine lv_iadd hx hb dL_law_483 ?_
  refine lv_topi (fun v1 ev1 => ?_)
  obtain rfl : v1 = nI (i5 + 1) := ev1.trans (nI_add i5 1)
  refine va_sld hx hb hX hbl hbA hS (vp_in_nI (by omega) (by omega)) dL_law_484 ?_
  rw [ha1]
  refine lv_aload_n hx hb dL_law_485 rfl (lv_at hl 4 rfl) ?_
  refine lv_iload hx hb dL_law_486 (lv_at hl 0 rfl) ?_
  refine lv_iconst (v := 2) hx hb dL_law_488 (by decide) ?_
  refine lv_iadd hx hb dL_law_489 ?_
  refine lv_topi (fun v2 ev2 => ?_)
  obtain rfl : v2 = nI (i5 + 2) := ev2.trans (nI_add i5 2)
  refine va_sld hx hb hX hbl hbA hS (vp_in_nI (by omega) (by omega)) dL_law_490 ?_
  rw [ha2]
  refine zc2i (vx_runSW (As := [.ref x, .int a1, .int a2]) (rest := []) ⟨hx, hb, hml, hown, hts⟩ (w_L_disturb l hlt dC dI cy G1 S1 H.size x f n sc ia na d ka va a1 a2 hC.1) (vx_cwSW 3 hts gL_law_L_disturb rfl rfl rfl (by decide +kernel) ⟨Nat.le_of_ble_eq_true rfl, Nat.le_of_ble_eq_true rfl⟩) (zpreSy hK hP1 hD1 hN hE hS hA hNc) rfl rfl hl.1 rfl (lv_room (Nat.le_of_ble_eq_true rfl)) dL_law_491 ⟨by show _ ≤ 777099; omega, by show _ ≤ 6764806; omega⟩) hS hD1 hA hP2 hAp (fun k9 T1 H locs hw hP1 hD1 hP2 hAp hS => ?_)
  refine lv_istore (lv' := [(5, .int k9), (4, .int (nI i5)), (3, .ref o), (2, .ref mo), (1, .ref x), (0, .ref b)]) hx hb dL_law_494 hl (by decide) rfl (fun ls hl => ?_)
  refine lv_aload_n hx hb dL_law_496 rfl (lv_at hl 3 rfl) ?_
  refine lv_aload_n hx hb dL_law_497 rfl (lv_at hl 5 rfl) ?_
  refine lv_iload hx hb dL_law_498 (lv_at hl 1 rfl) ?_
  refine lv_iconst (v := 1) hx hb dL_law_500 (by decide) ?_
  refine lv_iadd hx hb dL_law_501 ?_
  refine lv_topi (fun v3 ev3 => ?_)
  obtain rfl : v3 = nI (i5 + 1) := ev3.trans (nI_add i5 1)
  refine va_sld hx hb hX hbl hbA hS (vp_in_nI (by omega) (by omega)) dL_law_502 ?_
  rw [ha1]
  refine lv_aload_n hx hb dL_law_503 rfl (lv_at hl 5 rfl) ?_
  refine lv_iload hx hb dL_law_504 (lv_at hl 1 rfl) ?_
  refine lv_iconst (v := 2) hx hb dL_law_506 (by decide) ?_
  refine lv_iadd hx hb dL_law_507 ?_
  refine lv_topi (fun v4 ev4 => ?_)
  obtain rfl : v4 = nI (i5 + 2) := ev4.trans (nI_add i5 2)
  refine va_sld hx hb hX hbl hbA hS (vp_in_nI (by omega) (by omega)) dL_law_508 ?_
  rw [ha2]
  refine zc2v (va_runV (As := [.int a1, .int a2]) (rest := []) ⟨hx, hb, hml, hown, hts⟩ (c_X7_disturb l dC dI cy G2 S2 H.size mo ad a1 a2 hM.1 hM.2.1) (cwV 2 hts gL_law_X7_disturb rfl rfl rfl (by decide +kernel) ⟨Nat.le_of_ble_eq_true rfl, Nat.le_of_ble_eq_true rfl⟩) (zpreV hK hP2 hD2 hN (zrecv7 hK hP2 hM.1.1)) rfl rfl hl.1 rfl (lv_room (Nat.le_of_ble_eq_true rfl)) dL_law_509 ⟨by show _ ≤ 777099; omega, by show _ ≤ 6764806; omega⟩) hS hD2 hA hP1 hAp.symm (fun T2 H locs hm hP2 hD2 hP1 hAp hS => ?_)
  have hAp := hAp.symm
  obtain ⟨hC2, hv2⟩ := k_disturb (b := a1) (v := a2) hC hw
  obtain ⟨hM2, hu2⟩ := m_disturb hM hm
  have hR2 := hR.vw hv2 hu2
  refine lv_goto (tgt := 784) hx hb dL_law_512 (by decide) ?_
  refine W.widen (k := cells + 3) (n := slots + 25) (by omega) (by omega) ?_
  exact kk _ _ _ _ _ _ ⟨⟨hP1, hD1, hP2, hD2, hAp⟩, hS, hC2, hM2, hR2⟩ (lv_sub hl [1, 2, 3, 4, 5] rfl)
set_option maxHeartbeats 4000000 in
set_option maxRecDepth 100000 in
theorem q_wake {p : Program} {l : Launch} {e : Env} {s : State} {m : MethodId} {args : Array Value} {below : List Frame} {meth : Method} {c : Code} {H : Heap} {locs : List Loc} {cells slots : Nat} {Q : State → Prop} {ls : Array Slot} {dC : Nat → ClassId} {dI : Nat → Nat → Nat} {cy : Nat → ClassId} {A : Nat → Prop} {b L : Nat} {xs : Nat → Int32} {x f n sc ia na d ka va o mo : Nat} {ad : Nat → Nat} {G1 G2 : zG} {S1 S2 : zS} {i5 : Nat} {a1 a2 a3 a4 : Int32} (C : zLc p l s m args c dC dI cy A b L xs) (hi5 : i5 + 5 ≤ L) (ha1 : xs (nI (i5 + 1)).toNatClampNeg = a1) (ha2 : xs (nI (i5 + 2)).toNatClampNeg = a2) (ha3 : xs (nI (i5 + 3)).toNatClampNeg = a3) (ha4 : xs (nI (i5 + 4)).toNatClampNeg = a4) (hce : cells + 3 ≤ 777099) (hse : slots + 25 ≤ 6764806) (h : zLw dC dI cy s A x f n sc ia na d ka va o mo ad G1 S1 G2 S2 H locs)
    (hl : lv_has ls 7 [(4, .int (nI i5)), (3, .ref o), (2, .ref mo), (1, .ref x), (0, .ref b)]) (kk : ∀ (G1' : zG) (S1' S2' : zS) (H' : Heap) (locs' : List Loc) (ls' : Array Slot), zLw dC dI cy s A x f n sc ia na d ka va o mo ad G1' S1' G2 S2' H' locs' → lv_has ls' 7 [(4, .int (nI i5)), (3, .ref o), (2, .ref mo), (1, .ref x), (0, .ref b)] → W p l e room_1 s m args below meth c H' locs' (cells + 3) (slots + 25) Q (F0 m 784 ls' [])) : W p l e room_1 s m args below meth c H locs cells slots Q (F0 m 515 ls []) := by
  obtain ⟨⟨hx, hb, hml, hown, hts⟩, ⟨hX, hbl, hbA, hL⟩, hA, hK, hN, hE, hNc, hlt⟩ := C
  obtain ⟨⟨hP1, hD1, hP2, hD2, hAp⟩, hS, hC, hM, hR⟩ := h
  refine lv_aload_n hx hb dL_law_515 rfl (lv_at hl 3 rfl) ?_
  refine lv_aload_n hx hb dL_law_516 rfl (lv_at hl 4 rfl) ?_
  refine lv_iload hx hb dL_law_517 (lv_at hl 0 rfl) ?_
  refine lv_iconst (v := 1) hx hb dL_law_519 (by decide) ?_
  refine lv_iadd hx hb dL_law_520 ?_
  refine lv_topi (fun v1 ev1 => ?_)
  obtain rfl : v1 = nI (i5 + 1) := ev1.trans (nI_add i5 1)
  refine va_sld hx hb hX hbl hbA hS (vp_in_nI (by omega) (by omega)) dL_law_521 ?_
  rw [ha1]
  refine zc2i (vx_runSW (As := [.ref x, .int a1]) (rest := []) ⟨hx, hb, hml, hown, hts⟩ (w_L_wake l hlt dC dI cy G1 S1 H.size x f n sc ia na d ka va a1 hC.1) (vx_cwSW 2 hts gL_law_L_wake rfl rfl rfl (by decide +kernel) ⟨Nat.le_of_ble_eq_true rfl, Nat.le_of_ble_eq_true rfl⟩) (zpreSy hK hP1 hD1 hN hE hS hA hNc) rfl rfl hl.1 rfl (lv_room (Nat.le_of_ble_eq_true rfl)) dL_law_522 ⟨by show _ ≤ 777099; omega, by show _ ≤ 6764806; omega⟩) hS hD1 hA hP2 hAp (fun k9 T1 H locs hw hP1 hD1 hP2 hAp hS => ?_)
  refine lv_istore (lv' := [(5, .int k9), (4, .int (nI i5)), (3, .ref o), (2, .ref mo), (1, .ref x), (0, .ref b)]) hx hb dL_law_525 hl (by decide) rfl (fun ls hl => ?_)
  refine lv_aload_n hx hb dL_law_527 rfl (lv_at hl 3 rfl) ?_
  refine lv_aload_n hx hb dL_law_528 rfl (lv_at hl 5 rfl) ?_
  refine lv_iload hx hb dL_law_529 (lv_at hl 1 rfl) ?_
  refine lv_iconst (v := 1) hx hb dL_law_531 (by decide) ?_
  refine lv_iadd hx hb dL_law_532 ?_
  refine lv_topi (fun v2 ev2 => ?_)
  obtain rfl : v2 = nI (i5 + 1) := ev2.trans (nI_add i5 1)
  refine va_sld hx hb hX hbl hbA hS (vp_in_nI (by omega) (by omega)) dL_law_533 ?_
  rw [ha1]
  refine zc2v (va_runV (As := [.int a1]) (rest := []) ⟨hx, hb, hml, hown, hts⟩ (c_X7_wake l dC dI cy G2 S2 H.size mo ad a1 hM.1 hM.2.1) (cwV 1 hts gL_law_X7_wake rfl rfl rfl (by decide +kernel) ⟨Nat.le_of_ble_eq_true rfl, Nat.le_of_ble_eq_true rfl⟩) (zpreV hK hP2 hD2 hN (zrecv7 hK hP2 hM.1.1)) rfl rfl hl.1 rfl (lv_room (Nat.le_of_ble_eq_true rfl)) dL_law_534 ⟨by show _ ≤ 777099; omega, by show _ ≤ 6764806; omega⟩) hS hD2 hA hP1 hAp.symm (fun T2 H locs hm hP2 hD2 hP1 hAp hS => ?_)
  have hAp := hAp.symm
  obtain ⟨hC2, hM2, hR2, he2⟩ := s_wake hC hM hR hw hm
  refine lv_goto (tgt := 784) hx hb dL_law_537 (by decide) ?_
  refine W.widen (k := cells + 3) (n := slots + 25) (by omega) (by omega) ?_
  exact kk _ _ _ _ _ _ ⟨⟨hP1, hD1, hP2, hD2, hAp⟩, hS, hC2, hM2, hR2⟩ (lv_sub hl [1, 2, 3, 4, 5] rfl)
set_option maxHeartbeats 4000000 in
set_option maxRecDepth 100000 in
theorem q_run {p : Program} {l : Launch} {e : Env} {s : State} {m : MethodId} {args : Array Value} {below : List Frame} {meth : Method} {c : Code} {H : Heap} {locs : List Loc} {cells slots : Nat} {Q : State → Prop} {ls : Array Slot} {dC : Nat → ClassId} {dI : Nat → Nat → Nat} {cy : Nat → ClassId} {A : Nat → Prop} {b L : Nat} {xs : Nat → Int32} {x f n sc ia na d ka va o mo : Nat} {ad : Nat → Nat} {G1 G2 : zG} {S1 S2 : zS} {i5 : Nat} {a1 a2 a3 a4 : Int32} (C : zLc p l s m args c dC dI cy A b L xs) (hi5 : i5 + 5 ≤ L) (ha1 : xs (nI (i5 + 1)).toNatClampNeg = a1) (ha2 : xs (nI (i5 + 2)).toNatClampNeg = a2) (ha3 : xs (nI (i5 + 3)).toNatClampNeg = a3) (ha4 : xs (nI (i5 + 4)).toNatClampNeg = a4) (hce : cells + 3 ≤ 777099) (hse : slots + 25 ≤ 6764806) (h : zLw dC dI cy s A x f n sc ia na d ka va o mo ad G1 S1 G2 S2 H locs)
    (hl : lv_has ls 7 [(4, .int (nI i5)), (3, .ref o), (2, .ref mo), (1, .ref x), (0, .ref b)]) (kk : ∀ (G1' : zG) (S1' S2' : zS) (H' : Heap) (locs' : List Loc) (ls' : Array Slot), zLw dC dI cy s A x f n sc ia na d ka va o mo ad G1' S1' G2 S2' H' locs' → lv_has ls' 7 [(4, .int (nI i5)), (3, .ref o), (2, .ref mo), (1, .ref x), (0, .ref b)] → W p l e room_1 s m args below meth c H' locs' (cells + 3) (slots + 25) Q (F0 m 784 ls' [])) : W p l e room_1 s m args below meth c H locs cells slots Q (F0 m 540 ls []) := by
  obtain ⟨⟨hx, hb, hml, hown, hts⟩, ⟨hX, hbl, hbA, hL⟩, hA, hK, hN, hE, hNc, hlt⟩ := C
  obtain ⟨⟨hP1, hD1, hP2, hD2, hAp⟩, hS, hC, hM, hR⟩ := h
  refine lv_aload_n hx hb dL_law_540 rfl (lv_at hl 3 rfl) ?_
  refine lv_aload_n hx hb dL_law_541 rfl (lv_at hl 4 rfl) ?_
  refine lv_iload hx hb dL_law_542 (lv_at hl 0 rfl) ?_
  refine lv_iconst (v := 1) hx hb dL_law_544 (by decide) ?_
  refine lv_iadd hx hb dL_law_545 ?_
  refine lv_topi (fun v1 ev1 => ?_)
  obtain rfl : v1 = nI (i5 + 1) := ev1.trans (nI_add i5 1)
  refine va_sld hx hb hX hbl hbA hS (vp_in_nI (by omega) (by omega)) dL_law_546 ?_
  rw [ha1]
  refine lv_aload_n hx hb dL_law_547 rfl (lv_at hl 1 rfl) ?_
  refine zc2i (vx_runSW (As := [.ref x, .int a1, .ref o]) (rest := []) ⟨hx, hb, hml, hown, hts⟩ (w_L_run l hlt dC dI cy G1 S1 H.size x f n sc ia na d ka va a1 o hC.1 hC.2.1.1 hC.2.1.2) (vx_cwSW 3 hts gL_law_L_run rfl rfl rfl (by decide +kernel) ⟨Nat.le_of_ble_eq_true rfl, Nat.le_of_ble_eq_true rfl⟩) (zpreSy hK hP1 hD1 hN hE hS hA hNc) rfl rfl hl.1 rfl (lv_room (Nat.le_of_ble_eq_true rfl)) dL_law_548 ⟨by show _ ≤ 777099; omega, by show _ ≤ 6764806; omega⟩) hS hD1 hA hP2 hAp (fun k9 T1 H locs hw hP1 hD1 hP2 hAp hS => ?_)
  refine lv_istore (lv' := [(5, .int k9), (4, .int (nI i5)), (3, .ref o), (2, .ref mo), (1, .ref x), (0, .ref b)]) hx hb dL_law_551 hl (by decide) rfl (fun ls hl => ?_)
  refine lv_aload_n hx hb dL_law_553 rfl (lv_at hl 3 rfl) ?_
  refine lv_aload_n hx hb dL_law_554 rfl (lv_at hl 5 rfl) ?_
  refine lv_iload hx hb dL_law_555 (lv_at hl 1 rfl) ?_
  refine lv_iconst (v := 1) hx hb dL_law_557 (by decide) ?_
  refine lv_iadd hx hb dL_law_558 ?_
  refine lv_topi (fun v2 ev2 => ?_)
  obtain rfl : v2 = nI (i5 + 1) := ev2.trans (nI_add i5 1)
  refine va_sld hx hb hX hbl hbA hS (vp_in_nI (by omega) (by omega)) dL_law_559 ?_
  rw [ha1]
  refine zc2i (va_runV (As := [.int a1]) (rest := []) ⟨hx, hb, hml, hown, hts⟩ (c_X7_run l dC dI cy G2 S2 H.size mo ad a1 hM.1 hM.2.1) (cwV 1 hts gL_law_X7_run rfl rfl rfl (by decide +kernel) ⟨Nat.le_of_ble_eq_true rfl, Nat.le_of_ble_eq_true rfl⟩) (zpreV hK hP2 hD2 hN (zrecv7 hK hP2 hM.1.1)) rfl rfl hl.1 rfl (lv_room (Nat.le_of_ble_eq_true rfl)) dL_law_560 ⟨by show _ ≤ 777099; omega, by show _ ≤ 6764806; omega⟩) hS hD2 hA hP1 hAp.symm (fun r2 T2 H locs hm hP2 hD2 hP1 hAp hS => ?_)
  have hAp := hAp.symm
  obtain ⟨hC2, hM2, hR2, he2, ho2⟩ := s_run hC hM hR hw hm
  refine lv_istore (lv' := [(6, .int r2), (5, .int k9), (4, .int (nI i5)), (3, .ref o), (2, .ref mo), (1, .ref x), (0, .ref b)]) hx hb dL_law_563 hl (by decide) rfl (fun ls hl => ?_)
  refine lv_goto (tgt := 784) hx hb dL_law_565 (by decide) ?_
  refine W.widen (k := cells + 3) (n := slots + 25) (by omega) (by omega) ?_
  exact kk _ _ _ _ _ _ ⟨⟨hP1, hD1, hP2, hD2, hAp⟩, hS, hC2, hM2, hR2⟩ (lv_sub hl [2, 3, 4, 5, 6] rfl)
set_option maxHeartbeats 4000000 in
set_option maxRecDepth 100000 in
theorem q_byteAt {p : Program} {l : Launch} {e : Env} {s : State} {m : MethodId} {args : Array Value} {below : List Frame} {meth : Method} {c : Code} {H : Heap} {locs : List Loc} {cells slots : Nat} {Q : State → Prop} {ls : Array Slot} {dC : Nat → ClassId} {dI : Nat → Nat → Nat} {cy : Nat → ClassId} {A : Nat → Prop} {b L : Nat} {xs : Nat → Int32} {x f n sc ia na d ka va o mo : Nat} {ad : Nat → Nat} {G1 G2 : zG} {S1 S2 : zS} {i5 : Nat} {a1 a2 a3 a4 : Int32} (C : zLc p l s m args c dC dI cy A b L xs) (hi5 : i5 + 5 ≤ L) (ha1 : xs (nI (i5 + 1)).toNatClampNeg = a1) (ha2 : xs (nI (i5 + 2)).toNatClampNeg = a2) (ha3 : xs (nI (i5 + 3)).toNatClampNeg = a3) (ha4 : xs (nI (i5 + 4)).toNatClampNeg = a4) (hce : cells + 3 ≤ 777099) (hse : slots + 25 ≤ 6764806) (h : zLw dC dI cy s A x f n sc ia na d ka va o mo ad G1 S1 G2 S2 H locs)
    (hl : lv_has ls 7 [(4, .int (nI i5)), (3, .ref o), (2, .ref mo), (1, .ref x), (0, .ref b)]) (kk : ∀ (G1' : zG) (S1' S2' : zS) (H' : Heap) (locs' : List Loc) (ls' : Array Slot), zLw dC dI cy s A x f n sc ia na d ka va o mo ad G1' S1' G2 S2' H' locs' → lv_has ls' 7 [(4, .int (nI i5)), (3, .ref o), (2, .ref mo), (1, .ref x), (0, .ref b)] → W p l e room_1 s m args below meth c H' locs' (cells + 3) (slots + 25) Q (F0 m 784 ls' [])) : W p l e room_1 s m args below meth c H locs cells slots Q (F0 m 568 ls []) := by
  obtain ⟨⟨hx, hb, hml, hown, hts⟩, ⟨hX, hbl, hbA, hL⟩, hA, hK, hN, hE, hNc, hlt⟩ := C
  obtain ⟨⟨hP1, hD1, hP2, hD2, hAp⟩, hS, hC, hM, hR⟩ := h
  refine lv_aload_n hx hb dL_law_568 rfl (lv_at hl 3 rfl) ?_
  refine lv_aload_n hx hb dL_law_569 rfl (lv_at hl 4 rfl) ?_
  refine lv_iload hx hb dL_law_570 (lv_at hl 0 rfl) ?_
  refine lv_iconst (v := 1) hx hb dL_law_572 (by decide) ?_
  refine lv_iadd hx hb dL_law_573 ?_
  refine lv_topi (fun v1 ev1 => ?_)
  obtain rfl : v1 = nI (i5 + 1) := ev1.trans (nI_add i5 1)
  refine va_sld hx hb hX hbl hbA hS (vp_in_nI (by omega) (by omega)) dL_law_574 ?_
  rw [ha1]
  refine lv_aload_n hx hb dL_law_575 rfl (lv_at hl 4 rfl) ?_
  refine lv_iload hx hb dL_law_576 (lv_at hl 0 rfl) ?_
  refine lv_iconst (v := 2) hx hb dL_law_578 (by decide) ?_
  refine lv_iadd hx hb dL_law_579 ?_
  refine lv_topi (fun v2 ev2 => ?_)
  obtain rfl : v2 = nI (i5 + 2) := ev2.trans (nI_add i5 2)
  refine va_sld hx hb hX hbl hbA hS (vp_in_nI (by omega) (by omega)) dL_law_580 ?_
  rw [ha2]
  refine lv_aload_n hx hb dL_law_581 rfl (lv_at hl 4 rfl) ?_
  refine lv_iload hx hb dL_law_582 (lv_at hl 0 rfl) ?_
  refine lv_iconst (v := 3) hx hb dL_law_584 (by decide) ?_
  refine lv_iadd hx hb dL_law_585 ?_
  refine lv_topi (fun v3 ev3 => ?_)
  obtain rfl : v3 = nI (i5 + 3) := ev3.trans (nI_add i5 3)
  refine va_sld hx hb hX hbl hbA hS (vp_in_nI (by omega) (by omega)) dL_law_586 ?_
  rw [ha3]
  refine lv_aload_n hx hb dL_law_587 rfl (lv_at hl 1 rfl) ?_
  refine zc2i (vx_runSW (As := [.ref x, .int a1, .int a2, .int a3, .ref o]) (rest := []) ⟨hx, hb, hml, hown, hts⟩ (w_L_byteAt l hlt dC dI cy G1 S1 H.size x f n sc ia na d ka va a1 a2 a3 o hC.1 hC.2.1.1 hC.2.1.2) (vx_cwSW 5 hts gL_law_L_byteAt rfl rfl rfl (by decide +kernel) ⟨Nat.le_of_ble_eq_true rfl, Nat.le_of_ble_eq_true rfl⟩) (zpreSy hK hP1 hD1 hN hE hS hA hNc) rfl rfl hl.1 rfl (lv_room (Nat.le_of_ble_eq_true rfl)) dL_law_588 ⟨by show _ ≤ 777099; omega, by show _ ≤ 6764806; omega⟩) hS hD1 hA hP2 hAp (fun k9 T1 H locs hw hP1 hD1 hP2 hAp hS => ?_)
  refine lv_istore (lv' := [(5, .int k9), (4, .int (nI i5)), (3, .ref o), (2, .ref mo), (1, .ref x), (0, .ref b)]) hx hb dL_law_591 hl (by decide) rfl (fun ls hl => ?_)
  refine lv_aload_n hx hb dL_law_593 rfl (lv_at hl 3 rfl) ?_
  refine lv_aload_n hx hb dL_law_594 rfl (lv_at hl 5 rfl) ?_
  refine lv_iload hx hb dL_law_595 (lv_at hl 1 rfl) ?_
  refine lv_iconst (v := 1) hx hb dL_law_597 (by decide) ?_
  refine lv_iadd hx hb dL_law_598 ?_
  refine lv_topi (fun v4 ev4 => ?_)
  obtain rfl : v4 = nI (i5 + 1) := ev4.trans (nI_add i5 1)
  refine va_sld hx hb hX hbl hbA hS (vp_in_nI (by omega) (by omega)) dL_law_599 ?_
  rw [ha1]
  refine lv_aload_n hx hb dL_law_600 rfl (lv_at hl 5 rfl) ?_
  refine lv_iload hx hb dL_law_601 (lv_at hl 1 rfl) ?_
  refine lv_iconst (v := 2) hx hb dL_law_603 (by decide) ?_
  refine lv_iadd hx hb dL_law_604 ?_
  refine lv_topi (fun v5 ev5 => ?_)
  obtain rfl : v5 = nI (i5 + 2) := ev5.trans (nI_add i5 2)
  refine va_sld hx hb hX hbl hbA hS (vp_in_nI (by omega) (by omega)) dL_law_605 ?_
  rw [ha2]
  refine lv_aload_n hx hb dL_law_606 rfl (lv_at hl 5 rfl) ?_
  refine lv_iload hx hb dL_law_607 (lv_at hl 1 rfl) ?_
  refine lv_iconst (v := 3) hx hb dL_law_609 (by decide) ?_
  refine lv_iadd hx hb dL_law_610 ?_
  refine lv_topi (fun v6 ev6 => ?_)
  obtain rfl : v6 = nI (i5 + 3) := ev6.trans (nI_add i5 3)
  refine va_sld hx hb hX hbl hbA hS (vp_in_nI (by omega) (by omega)) dL_law_611 ?_
  rw [ha3]
  refine zc2i (va_runV (As := [.int a1, .int a2, .int a3]) (rest := []) ⟨hx, hb, hml, hown, hts⟩ (c_X7_byteAt l dC dI cy G2 S2 H.size mo ad a1 a2 a3 hM.1 hM.2.1) (cwV 3 hts gL_law_X7_byteAt rfl rfl rfl (by decide +kernel) ⟨Nat.le_of_ble_eq_true rfl, Nat.le_of_ble_eq_true rfl⟩) (zpreV hK hP2 hD2 hN (zrecv7 hK hP2 hM.1.1)) rfl rfl hl.1 rfl (lv_room (Nat.le_of_ble_eq_true rfl)) dL_law_612 ⟨by show _ ≤ 777099; omega, by show _ ≤ 6764806; omega⟩) hS hD2 hA hP1 hAp.symm (fun r2 T2 H locs hm hP2 hD2 hP1 hAp hS => ?_)
  have hAp := hAp.symm
  obtain ⟨hC2, hv2⟩ := k_byteAt (v := a1) (id := a2) (b := a3) hC hw
  obtain ⟨hM2, hu2⟩ := m_byteAt hM hm
  have hR2 := hR.vw hv2 hu2
  refine lv_istore (lv' := [(6, .int r2), (5, .int k9), (4, .int (nI i5)), (3, .ref o), (2, .ref mo), (1, .ref x), (0, .ref b)]) hx hb dL_law_615 hl (by decide) rfl (fun ls hl => ?_)
  refine lv_goto (tgt := 784) hx hb dL_law_617 (by decide) ?_
  refine W.widen (k := cells + 3) (n := slots + 25) (by omega) (by omega) ?_
  exact kk _ _ _ _ _ _ ⟨⟨hP1, hD1, hP2, hD2, hAp⟩, hS, hC2, hM2, hR2⟩ (lv_sub hl [2, 3, 4, 5, 6] rfl)
set_option maxHeartbeats 4000000 in
set_option maxRecDepth 100000 in
theorem q_taken {p : Program} {l : Launch} {e : Env} {s : State} {m : MethodId} {args : Array Value} {below : List Frame} {meth : Method} {c : Code} {H : Heap} {locs : List Loc} {cells slots : Nat} {Q : State → Prop} {ls : Array Slot} {dC : Nat → ClassId} {dI : Nat → Nat → Nat} {cy : Nat → ClassId} {A : Nat → Prop} {b L : Nat} {xs : Nat → Int32} {x f n sc ia na d ka va o mo : Nat} {ad : Nat → Nat} {G1 G2 : zG} {S1 S2 : zS} {i5 : Nat} {a1 a2 a3 a4 : Int32} (C : zLc p l s m args c dC dI cy A b L xs) (hi5 : i5 + 5 ≤ L) (ha1 : xs (nI (i5 + 1)).toNatClampNeg = a1) (ha2 : xs (nI (i5 + 2)).toNatClampNeg = a2) (ha3 : xs (nI (i5 + 3)).toNatClampNeg = a3) (ha4 : xs (nI (i5 + 4)).toNatClampNeg = a4) (hce : cells + 3 ≤ 777099) (hse : slots + 25 ≤ 6764806) (h : zLw dC dI cy s A x f n sc ia na d ka va o mo ad G1 S1 G2 S2 H locs)
    (hl : lv_has ls 7 [(4, .int (nI i5)), (3, .ref o), (2, .ref mo), (1, .ref x), (0, .ref b)]) (kk : ∀ (G1' : zG) (S1' S2' : zS) (H' : Heap) (locs' : List Loc) (ls' : Array Slot), zLw dC dI cy s A x f n sc ia na d ka va o mo ad G1' S1' G2 S2' H' locs' → lv_has ls' 7 [(4, .int (nI i5)), (3, .ref o), (2, .ref mo), (1, .ref x), (0, .ref b)] → W p l e room_1 s m args below meth c H' locs' (cells + 3) (slots + 25) Q (F0 m 784 ls' [])) : W p l e room_1 s m args below meth c H locs cells slots Q (F0 m 620 ls []) := by
  obtain ⟨⟨hx, hb, hml, hown, hts⟩, ⟨hX, hbl, hbA, hL⟩, hA, hK, hN, hE, hNc, hlt⟩ := C
  obtain ⟨⟨hP1, hD1, hP2, hD2, hAp⟩, hS, hC, hM, hR⟩ := h
  refine lv_aload_n hx hb dL_law_620 rfl (lv_at hl 3 rfl) ?_
  refine lv_aload_n hx hb dL_law_621 rfl (lv_at hl 4 rfl) ?_
  refine lv_iload hx hb dL_law_622 (lv_at hl 0 rfl) ?_
  refine lv_iconst (v := 1) hx hb dL_law_624 (by decide) ?_
  refine lv_iadd hx hb dL_law_625 ?_
  refine lv_topi (fun v1 ev1 => ?_)
  obtain rfl : v1 = nI (i5 + 1) := ev1.trans (nI_add i5 1)
  refine va_sld hx hb hX hbl hbA hS (vp_in_nI (by omega) (by omega)) dL_law_626 ?_
  rw [ha1]
  refine lv_aload_n hx hb dL_law_627 rfl (lv_at hl 4 rfl) ?_
  refine lv_iload hx hb dL_law_628 (lv_at hl 0 rfl) ?_
  refine lv_iconst (v := 2) hx hb dL_law_630 (by decide) ?_
  refine lv_iadd hx hb dL_law_631 ?_
  refine lv_topi (fun v2 ev2 => ?_)
  obtain rfl : v2 = nI (i5 + 2) := ev2.trans (nI_add i5 2)
  refine va_sld hx hb hX hbl hbA hS (vp_in_nI (by omega) (by omega)) dL_law_632 ?_
  rw [ha2]
  refine lv_aload_n hx hb dL_law_633 rfl (lv_at hl 1 rfl) ?_
  refine zc2i (vx_runSW (As := [.ref x, .int a1, .int a2, .ref o]) (rest := []) ⟨hx, hb, hml, hown, hts⟩ (w_L_taken l hlt dC dI cy G1 S1 H.size x f n sc ia na d ka va a1 a2 o hC.1 hC.2.1.1 hC.2.1.2) (vx_cwSW 4 hts gL_law_L_taken rfl rfl rfl (by decide +kernel) ⟨Nat.le_of_ble_eq_true rfl, Nat.le_of_ble_eq_true rfl⟩) (zpreSy hK hP1 hD1 hN hE hS hA hNc) rfl rfl hl.1 rfl (lv_room (Nat.le_of_ble_eq_true rfl)) dL_law_634 ⟨by show _ ≤ 777099; omega, by show _ ≤ 6764806; omega⟩) hS hD1 hA hP2 hAp (fun k9 T1 H locs hw hP1 hD1 hP2 hAp hS => ?_)
  refine lv_istore (lv' := [(5, .int k9), (4, .int (nI i5)), (3, .ref o), (2, .ref mo), (1, .ref x), (0, .ref b)]) hx hb dL_law_637 hl (by decide) rfl (fun ls hl => ?_)
  refine lv_aload_n hx hb dL_law_639 rfl (lv_at hl 3 rfl) ?_
  refine lv_aload_n hx hb dL_law_640 rfl (lv_at hl 5 rfl) ?_
  refine lv_iload hx hb dL_law_641 (lv_at hl 1 rfl) ?_
  refine lv_iconst (v := 1) hx hb dL_law_643 (by decide) ?_
  refine lv_iadd hx hb dL_law_644 ?_
  refine lv_topi (fun v3 ev3 => ?_)
  obtain rfl : v3 = nI (i5 + 1) := ev3.trans (nI_add i5 1)
  refine va_sld hx hb hX hbl hbA hS (vp_in_nI (by omega) (by omega)) dL_law_645 ?_
  rw [ha1]
  refine lv_aload_n hx hb dL_law_646 rfl (lv_at hl 5 rfl) ?_
  refine lv_iload hx hb dL_law_647 (lv_at hl 1 rfl) ?_
  refine lv_iconst (v := 2) hx hb dL_law_649 (by decide) ?_
  refine lv_iadd hx hb dL_law_650 ?_
  refine lv_topi (fun v4 ev4 => ?_)
  obtain rfl : v4 = nI (i5 + 2) := ev4.trans (nI_add i5 2)
  refine va_sld hx hb hX hbl hbA hS (vp_in_nI (by omega) (by omega)) dL_law_651 ?_
  rw [ha2]
  refine zc2i (va_runV (As := [.int a1, .int a2]) (rest := []) ⟨hx, hb, hml, hown, hts⟩ (c_X7_taken l dC dI cy G2 S2 H.size mo ad a1 a2 hM.1 hM.2.1) (cwV 2 hts gL_law_X7_taken rfl rfl rfl (by decide +kernel) ⟨Nat.le_of_ble_eq_true rfl, Nat.le_of_ble_eq_true rfl⟩) (zpreV hK hP2 hD2 hN (zrecv7 hK hP2 hM.1.1)) rfl rfl hl.1 rfl (lv_room (Nat.le_of_ble_eq_true rfl)) dL_law_652 ⟨by show _ ≤ 777099; omega, by show _ ≤ 6764806; omega⟩) hS hD2 hA hP1 hAp.symm (fun r2 T2 H locs hm hP2 hD2 hP1 hAp hS => ?_)
  have hAp := hAp.symm
  obtain ⟨hC2, hv2⟩ := k_taken (v := a1) (id := a2) hC hw
  obtain ⟨hM2, hu2⟩ := m_taken hM hm
  have hR2 := hR.vw hv2 hu2
  refine lv_istore (lv' := [(6, .int r2), (5, .int k9), (4, .int (nI i5)), (3, .ref o), (2, .ref mo), (1, .ref x), (0, .ref b)]) hx hb dL_law_655 hl (by decide) rfl (fun ls hl => ?_)
  refine lv_goto (tgt := 784) hx hb dL_law_657 (by decide) ?_
  refine W.widen (k := cells + 3) (n := slots + 25) (by omega) (by omega) ?_
  exact kk _ _ _ _ _ _ ⟨⟨hP1, hD1, hP2, hD2, hAp⟩, hS, hC2, hM2, hR2⟩ (lv_sub hl [2, 3, 4, 5, 6] rfl)
set_option maxHeartbeats 4000000 in
set_option maxRecDepth 100000 in
theorem q_told {p : Program} {l : Launch} {e : Env} {s : State} {m : MethodId} {args : Array Value} {below : List Frame} {meth : Method} {c : Code} {H : Heap} {locs : List Loc} {cells slots : Nat} {Q : State → Prop} {ls : Array Slot} {dC : Nat → ClassId} {dI : Nat → Nat → Nat} {cy : Nat → ClassId} {A : Nat → Prop} {b L : Nat} {xs : Nat → Int32} {x f n sc ia na d ka va o mo : Nat} {ad : Nat → Nat} {G1 G2 : zG} {S1 S2 : zS} {i5 : Nat} {a1 a2 a3 a4 : Int32} (C : zLc p l s m args c dC dI cy A b L xs) (hi5 : i5 + 5 ≤ L) (ha1 : xs (nI (i5 + 1)).toNatClampNeg = a1) (ha2 : xs (nI (i5 + 2)).toNatClampNeg = a2) (ha3 : xs (nI (i5 + 3)).toNatClampNeg = a3) (ha4 : xs (nI (i5 + 4)).toNatClampNeg = a4) (hce : cells + 3 ≤ 777099) (hse : slots + 25 ≤ 6764806) (h : zLw dC dI cy s A x f n sc ia na d ka va o mo ad G1 S1 G2 S2 H locs)
    (hl : lv_has ls 7 [(4, .int (nI i5)), (3, .ref o), (2, .ref mo), (1, .ref x), (0, .ref b)]) (kk : ∀ (G1' : zG) (S1' S2' : zS) (H' : Heap) (locs' : List Loc) (ls' : Array Slot), zLw dC dI cy s A x f n sc ia na d ka va o mo ad G1' S1' G2 S2' H' locs' → lv_has ls' 7 [(4, .int (nI i5)), (3, .ref o), (2, .ref mo), (1, .ref x), (0, .ref b)] → W p l e room_1 s m args below meth c H' locs' (cells + 3) (slots + 25) Q (F0 m 784 ls' [])) : W p l e room_1 s m args below meth c H locs cells slots Q (F0 m 660 ls []) := by
  obtain ⟨⟨hx, hb, hml, hown, hts⟩, ⟨hX, hbl, hbA, hL⟩, hA, hK, hN, hE, hNc, hlt⟩ := C
  obtain ⟨⟨hP1, hD1, hP2, hD2, hAp⟩, hS, hC, hM, hR⟩ := h
  refine lv_aload_n hx hb dL_law_660 rfl (lv_at hl 3 rfl) ?_
  refine lv_aload_n hx hb dL_law_661 rfl (lv_at hl 4 rfl) ?_
  refine lv_iload hx hb dL_law_662 (lv_at hl 0 rfl) ?_
  refine lv_iconst (v := 1) hx hb dL_law_664 (by decide) ?_
  refine lv_iadd hx hb dL_law_665 ?_
  refine lv_topi (fun v1 ev1 => ?_)
  obtain rfl : v1 = nI (i5 + 1) := ev1.trans (nI_add i5 1)
  refine va_sld hx hb hX hbl hbA hS (vp_in_nI (by omega) (by omega)) dL_law_666 ?_
  rw [ha1]
  refine lv_aload_n hx hb dL_law_667 rfl (lv_at hl 4 rfl) ?_
  refine lv_iload hx hb dL_law_668 (lv_at hl 0 rfl) ?_
  refine lv_iconst (v := 2) hx hb dL_law_670 (by decide) ?_
  refine lv_iadd hx hb dL_law_671 ?_
  refine lv_topi (fun v2 ev2 => ?_)
  obtain rfl : v2 = nI (i5 + 2) := ev2.trans (nI_add i5 2)
  refine va_sld hx hb hX hbl hbA hS (vp_in_nI (by omega) (by omega)) dL_law_672 ?_
  rw [ha2]
  refine lv_aload_n hx hb dL_law_673 rfl (lv_at hl 1 rfl) ?_
  refine zc2i (vx_runSW (As := [.ref x, .int a1, .int a2, .ref o]) (rest := []) ⟨hx, hb, hml, hown, hts⟩ (w_L_told l hlt dC dI cy G1 S1 H.size x f n sc ia na d ka va a1 a2 o hC.1 hC.2.1.1 hC.2.1.2) (vx_cwSW 4 hts gL_law_L_told rfl rfl rfl (by decide +kernel) ⟨Nat.le_of_ble_eq_true rfl, Nat.le_of_ble_eq_true rfl⟩) (zpreSy hK hP1 hD1 hN hE hS hA hNc) rfl rfl hl.1 rfl (lv_room (Nat.le_of_ble_eq_true rfl)) dL_law_674 ⟨by show _ ≤ 777099; omega, by show _ ≤ 6764806; omega⟩) hS hD1 hA hP2 hAp (fun k9 T1 H locs hw hP1 hD1 hP2 hAp hS => ?_)
  refine lv_istore (lv' := [(5, .int k9), (4, .int (nI i5)), (3, .ref o), (2, .ref mo), (1, .ref x), (0, .ref b)]) hx hb dL_law_677 hl (by decide) rfl (fun ls hl => ?_)
  refine lv_aload_n hx hb dL_law_679 rfl (lv_at hl 3 rfl) ?_
  refine lv_aload_n hx hb dL_law_680 rfl (lv_at hl 5 rfl) ?_
  refine lv_iload hx hb dL_law_681 (lv_at hl 1 rfl) ?_
  refine lv_iconst (v := 1) hx hb dL_law_683 (by decide) ?_
  refine lv_iadd hx hb dL_law_684 ?_
  refine lv_topi (fun v3 ev3 => ?_)
  obtain rfl : v3 = nI (i5 + 1) := ev3.trans (nI_add i5 1)
  refine va_sld hx hb hX hbl hbA hS (vp_in_nI (by omega) (by omega)) dL_law_685 ?_
  rw [ha1]
  refine lv_aload_n hx hb dL_law_686 rfl (lv_at hl 5 rfl) ?_
  refine lv_iload hx hb dL_law_687 (lv_at hl 1 rfl) ?_
  refine lv_iconst (v := 2) hx hb dL_law_689 (by decide) ?_
  refine lv_iadd hx hb dL_law_690 ?_
  refine lv_topi (fun v4 ev4 => ?_)
  obtain rfl : v4 = nI (i5 + 2) := ev4.trans (nI_add i5 2)
  refine va_sld hx hb hX hbl hbA hS (vp_in_nI (by omega) (by omega)) dL_law_691 ?_
  rw [ha2]
  refine zc2i (va_runV (As := [.int a1, .int a2]) (rest := []) ⟨hx, hb, hml, hown, hts⟩ (c_X7_told l dC dI cy G2 S2 H.size mo ad a1 a2 hM.1 hM.2.1) (cwV 2 hts gL_law_X7_told rfl rfl rfl (by decide +kernel) ⟨Nat.le_of_ble_eq_true rfl, Nat.le_of_ble_eq_true rfl⟩) (zpreV hK hP2 hD2 hN (zrecv7 hK hP2 hM.1.1)) rfl rfl hl.1 rfl (lv_room (Nat.le_of_ble_eq_true rfl)) dL_law_692 ⟨by show _ ≤ 777099; omega, by show _ ≤ 6764806; omega⟩) hS hD2 hA hP1 hAp.symm (fun r2 T2 H locs hm hP2 hD2 hP1 hAp hS => ?_)
  have hAp := hAp.symm
  obtain ⟨hC2, hv2⟩ := k_told (v := a1) (k := a2) hC hw
  obtain ⟨hM2, hu2⟩ := m_told hM hm
  have hR2 := hR.vw hv2 hu2
  refine lv_istore (lv' := [(6, .int r2), (5, .int k9), (4, .int (nI i5)), (3, .ref o), (2, .ref mo), (1, .ref x), (0, .ref b)]) hx hb dL_law_695 hl (by decide) rfl (fun ls hl => ?_)
  refine lv_goto (tgt := 784) hx hb dL_law_697 (by decide) ?_
  refine W.widen (k := cells + 3) (n := slots + 25) (by omega) (by omega) ?_
  exact kk _ _ _ _ _ _ ⟨⟨hP1, hD1, hP2, hD2, hAp⟩, hS, hC2, hM2, hR2⟩ (lv_sub hl [2, 3, 4, 5, 6] rfl)
set_option maxHeartbeats 4000000 in
set_option maxRecDepth 100000 in
theorem q_count {p : Program} {l : Launch} {e : Env} {s : State} {m : MethodId} {args : Array Value} {below : List Frame} {meth : Method} {c : Code} {H : Heap} {locs : List Loc} {cells slots : Nat} {Q : State → Prop} {ls : Array Slot} {dC : Nat → ClassId} {dI : Nat → Nat → Nat} {cy : Nat → ClassId} {A : Nat → Prop} {b L : Nat} {xs : Nat → Int32} {x f n sc ia na d ka va o mo : Nat} {ad : Nat → Nat} {G1 G2 : zG} {S1 S2 : zS} {i5 : Nat} {a1 a2 a3 a4 : Int32} (C : zLc p l s m args c dC dI cy A b L xs) (hi5 : i5 + 5 ≤ L) (ha1 : xs (nI (i5 + 1)).toNatClampNeg = a1) (ha2 : xs (nI (i5 + 2)).toNatClampNeg = a2) (ha3 : xs (nI (i5 + 3)).toNatClampNeg = a3) (ha4 : xs (nI (i5 + 4)).toNatClampNeg = a4) (hce : cells + 3 ≤ 777099) (hse : slots + 25 ≤ 6764806) (h : zLw dC dI cy s A x f n sc ia na d ka va o mo ad G1 S1 G2 S2 H locs)
    (hl : lv_has ls 7 [(4, .int (nI i5)), (3, .ref o), (2, .ref mo), (1, .ref x), (0, .ref b)]) (kk : ∀ (G1' : zG) (S1' S2' : zS) (H' : Heap) (locs' : List Loc) (ls' : Array Slot), zLw dC dI cy s A x f n sc ia na d ka va o mo ad G1' S1' G2 S2' H' locs' → lv_has ls' 7 [(4, .int (nI i5)), (3, .ref o), (2, .ref mo), (1, .ref x), (0, .ref b)] → W p l e room_1 s m args below meth c H' locs' (cells + 3) (slots + 25) Q (F0 m 784 ls' [])) : W p l e room_1 s m args below meth c H locs cells slots Q (F0 m 700 ls []) := by
  obtain ⟨⟨hx, hb, hml, hown, hts⟩, ⟨hX, hbl, hbA, hL⟩, hA, hK, hN, hE, hNc, hlt⟩ := C
  obtain ⟨⟨hP1, hD1, hP2, hD2, hAp⟩, hS, hC, hM, hR⟩ := h
  refine lv_aload_n hx hb dL_law_700 rfl (lv_at hl 3 rfl) ?_
  refine lv_aload_n hx hb dL_law_701 rfl (lv_at hl 4 rfl) ?_
  refine lv_iload hx hb dL_law_702 (lv_at hl 0 rfl) ?_
  refine lv_iconst (v := 1) hx hb dL_law_704 (by decide) ?_
  refine lv_iadd hx hb dL_law_705 ?_
  refine lv_topi (fun v1 ev1 => ?_)
  obtain rfl : v1 = nI (i5 + 1) := ev1.trans (nI_add i5 1)
  refine va_sld hx hb hX hbl hbA hS (vp_in_nI (by omega) (by omega)) dL_law_706 ?_
  rw [ha1]
  refine lv_aload_n hx hb dL_law_707 rfl (lv_at hl 1 rfl) ?_
  refine zc2i (vx_runSW (As := [.ref x, .int a1, .ref o]) (rest := []) ⟨hx, hb, hml, hown, hts⟩ (w_L_count l hlt dC dI cy G1 S1 H.size x f n sc ia na d ka va a1 o hC.1 hC.2.1.1 hC.2.1.2) (vx_cwSW 3 hts gL_law_L_count rfl rfl rfl (by decide +kernel) ⟨Nat.le_of_ble_eq_true rfl, Nat.le_of_ble_eq_true rfl⟩) (zpreSy hK hP1 hD1 hN hE hS hA hNc) rfl rfl hl.1 rfl (lv_room (Nat.le_of_ble_eq_true rfl)) dL_law_708 ⟨by show _ ≤ 777099; omega, by show _ ≤ 6764806; omega⟩) hS hD1 hA hP2 hAp (fun k9 T1 H locs hw hP1 hD1 hP2 hAp hS => ?_)
  refine lv_istore (lv' := [(5, .int k9), (4, .int (nI i5)), (3, .ref o), (2, .ref mo), (1, .ref x), (0, .ref b)]) hx hb dL_law_711 hl (by decide) rfl (fun ls hl => ?_)
  refine lv_aload_n hx hb dL_law_713 rfl (lv_at hl 3 rfl) ?_
  refine lv_aload_n hx hb dL_law_714 rfl (lv_at hl 5 rfl) ?_
  refine lv_iload hx hb dL_law_715 (lv_at hl 1 rfl) ?_
  refine lv_iconst (v := 1) hx hb dL_law_717 (by decide) ?_
  refine lv_iadd hx hb dL_law_718 ?_
  refine lv_topi (fun v2 ev2 => ?_)
  obtain rfl : v2 = nI (i5 + 1) := ev2.trans (nI_add i5 1)
  refine va_sld hx hb hX hbl hbA hS (vp_in_nI (by omega) (by omega)) dL_law_719 ?_
  rw [ha1]
  refine zc2i (va_runV (As := [.int a1]) (rest := []) ⟨hx, hb, hml, hown, hts⟩ (c_X7_count l dC dI cy G2 S2 H.size mo ad a1 hM.1 hM.2.1) (cwV 1 hts gL_law_X7_count rfl rfl rfl (by decide +kernel) ⟨Nat.le_of_ble_eq_true rfl, Nat.le_of_ble_eq_true rfl⟩) (zpreV hK hP2 hD2 hN (zrecv7 hK hP2 hM.1.1)) rfl rfl hl.1 rfl (lv_room (Nat.le_of_ble_eq_true rfl)) dL_law_720 ⟨by show _ ≤ 777099; omega, by show _ ≤ 6764806; omega⟩) hS hD2 hA hP1 hAp.symm (fun r2 T2 H locs hm hP2 hD2 hP1 hAp hS => ?_)
  have hAp := hAp.symm
  obtain ⟨hC2, hv2⟩ := k_count (k := a1) hC hw
  obtain ⟨hM2, hu2⟩ := m_count hM hm
  have hR2 := hR.vw hv2 hu2
  refine lv_istore (lv' := [(6, .int r2), (5, .int k9), (4, .int (nI i5)), (3, .ref o), (2, .ref mo), (1, .ref x), (0, .ref b)]) hx hb dL_law_723 hl (by decide) rfl (fun ls hl => ?_)
  refine lv_goto (tgt := 784) hx hb dL_law_725 (by decide) ?_
  refine W.widen (k := cells + 3) (n := slots + 25) (by omega) (by omega) ?_
  exact kk _ _ _ _ _ _ ⟨⟨hP1, hD1, hP2, hD2, hAp⟩, hS, hC2, hM2, hR2⟩ (lv_sub hl [2, 3, 4, 5, 6] rfl)
set_option maxHeartbeats 4000000 in
set_option maxRecDepth 100000 in
theorem q_line {p : Program} {l : Launch} {e : Env} {s : State} {m : MethodId} {args : Array Value} {below : List Frame} {meth : Method} {c : Code} {H : Heap} {locs : List Loc} {cells slots : Nat} {Q : State → Prop} {ls : Array Slot} {dC : Nat → ClassId} {dI : Nat → Nat → Nat} {cy : Nat → ClassId} {A : Nat → Prop} {b L : Nat} {xs : Nat → Int32} {x f n sc ia na d ka va o mo : Nat} {ad : Nat → Nat} {G1 G2 : zG} {S1 S2 : zS} {i5 : Nat} {a1 a2 a3 a4 : Int32} (C : zLc p l s m args c dC dI cy A b L xs) (hi5 : i5 + 5 ≤ L) (ha1 : xs (nI (i5 + 1)).toNatClampNeg = a1) (ha2 : xs (nI (i5 + 2)).toNatClampNeg = a2) (ha3 : xs (nI (i5 + 3)).toNatClampNeg = a3) (ha4 : xs (nI (i5 + 4)).toNatClampNeg = a4) (hce : cells + 3 ≤ 777099) (hse : slots + 25 ≤ 6764806) (h : zLw dC dI cy s A x f n sc ia na d ka va o mo ad G1 S1 G2 S2 H locs)
    (hl : lv_has ls 7 [(4, .int (nI i5)), (3, .ref o), (2, .ref mo), (1, .ref x), (0, .ref b)]) (kk : ∀ (G1' : zG) (S1' S2' : zS) (H' : Heap) (locs' : List Loc) (ls' : Array Slot), zLw dC dI cy s A x f n sc ia na d ka va o mo ad G1' S1' G2 S2' H' locs' → lv_has ls' 7 [(4, .int (nI i5)), (3, .ref o), (2, .ref mo), (1, .ref x), (0, .ref b)] → W p l e room_1 s m args below meth c H' locs' (cells + 3) (slots + 25) Q (F0 m 784 ls' [])) : W p l e room_1 s m args below meth c H locs cells slots Q (F0 m 728 ls []) := by
  obtain ⟨⟨hx, hb, hml, hown, hts⟩, ⟨hX, hbl, hbA, hL⟩, hA, hK, hN, hE, hNc, hlt⟩ := C
  obtain ⟨⟨hP1, hD1, hP2, hD2, hAp⟩, hS, hC, hM, hR⟩ := h
  obtain ⟨t8, hlt8, ht8⟩ := hM.2.1.2.2.1
  refine lv_aload_n hx hb dL_law_728 rfl (lv_at hl 3 rfl) ?_
  refine lv_aload_n hx hb dL_law_729 rfl (lv_at hl 4 rfl) ?_
  refine lv_iload hx hb dL_law_730 (lv_at hl 0 rfl) ?_
  refine lv_iconst (v := 1) hx hb dL_law_732 (by decide) ?_
  refine lv_iadd hx hb dL_law_733 ?_
  refine lv_topi (fun v1 ev1 => ?_)
  obtain rfl : v1 = nI (i5 + 1) := ev1.trans (nI_add i5 1)
  refine va_sld hx hb hX hbl hbA hS (vp_in_nI (by omega) (by omega)) dL_law_734 ?_
  rw [ha1]
  refine lv_aload_n hx hb dL_law_735 rfl (lv_at hl 1 rfl) ?_
  refine zc2i (vx_runSW (As := [.ref x, .int a1, .ref o]) (rest := []) ⟨hx, hb, hml, hown, hts⟩ (w_L_line l hlt dC dI cy G1 S1 H.size x f n sc ia na d ka va a1 o hC.1 hC.2.1.1 hC.2.1.2) (vx_cwSW 3 hts gL_law_L_line rfl rfl rfl (by decide +kernel) ⟨Nat.le_of_ble_eq_true rfl, Nat.le_of_ble_eq_true rfl⟩) (zpreSy hK hP1 hD1 hN hE hS hA hNc) rfl rfl hl.1 rfl (lv_room (Nat.le_of_ble_eq_true rfl)) dL_law_736 ⟨by show _ ≤ 777099; omega, by show _ ≤ 6764806; omega⟩) hS hD1 hA hP2 hAp (fun k9 T1 H locs hw hP1 hD1 hP2 hAp hS => ?_)
  refine lv_istore (lv' := [(5, .int k9), (4, .int (nI i5)), (3, .ref o), (2, .ref mo), (1, .ref x), (0, .ref b)]) hx hb dL_law_739 hl (by decide) rfl (fun ls hl => ?_)
  refine lv_aload_n hx hb dL_law_741 rfl (lv_at hl 3 rfl) ?_
  refine lv_aload_n hx hb dL_law_742 rfl (lv_at hl 5 rfl) ?_
  refine lv_iload hx hb dL_law_743 (lv_at hl 1 rfl) ?_
  refine lv_iconst (v := 1) hx hb dL_law_745 (by decide) ?_
  refine lv_iadd hx hb dL_law_746 ?_
  refine lv_topi (fun v2 ev2 => ?_)
  obtain rfl : v2 = nI (i5 + 1) := ev2.trans (nI_add i5 1)
  refine va_sld hx hb hX hbl hbA hS (vp_in_nI (by omega) (by omega)) dL_law_747 ?_
  rw [ha1]
  refine zc2i (va_runV (As := [.int a1]) (rest := []) ⟨hx, hb, hml, hown, hts⟩ (c_X7_line l dC dI cy G2 S2 H.size mo ad a1 t8 hM.1 hM.2.1 ht8 hlt8) (cwV 1 hts gL_law_X7_line rfl rfl rfl (by decide +kernel) ⟨Nat.le_of_ble_eq_true rfl, Nat.le_of_ble_eq_true rfl⟩) (zpreV hK hP2 hD2 hN (zrecv7 hK hP2 hM.1.1)) rfl rfl hl.1 rfl (lv_room (Nat.le_of_ble_eq_true rfl)) dL_law_748 ⟨by show _ ≤ 777099; omega, by show _ ≤ 6764806; omega⟩) hS hD2 hA hP1 hAp.symm (fun r2 T2 H locs hm hP2 hD2 hP1 hAp hS => ?_)
  have hAp := hAp.symm
  obtain ⟨hC2, hv2⟩ := k_line (b := a1) hC hw
  obtain ⟨hM2, hu2⟩ := m_line hM hm
  have hR2 := hR.vw hv2 hu2
  refine lv_istore (lv' := [(6, .int r2), (5, .int k9), (4, .int (nI i5)), (3, .ref o), (2, .ref mo), (1, .ref x), (0, .ref b)]) hx hb dL_law_751 hl (by decide) rfl (fun ls hl => ?_)
  refine lv_goto (tgt := 784) hx hb dL_law_753 (by decide) ?_
  refine W.widen (k := cells + 3) (n := slots + 25) (by omega) (by omega) ?_
  exact kk _ _ _ _ _ _ ⟨⟨hP1, hD1, hP2, hD2, hAp⟩, hS, hC2, hM2, hR2⟩ (lv_sub hl [2, 3, 4, 5, 6] rfl)
set_option maxHeartbeats 4000000 in
set_option maxRecDepth 100000 in
theorem q_checks {p : Program} {l : Launch} {e : Env} {s : State} {m : MethodId} {args : Array Value} {below : List Frame} {meth : Method} {c : Code} {H : Heap} {locs : List Loc} {cells slots : Nat} {Q : State → Prop} {ls : Array Slot} {dC : Nat → ClassId} {dI : Nat → Nat → Nat} {cy : Nat → ClassId} {A : Nat → Prop} {b L : Nat} {xs : Nat → Int32} {x f n sc ia na d ka va o mo : Nat} {ad : Nat → Nat} {G1 G2 : zG} {S1 S2 : zS} {i5 : Nat} {a1 a2 a3 a4 : Int32} (C : zLc p l s m args c dC dI cy A b L xs) (hi5 : i5 + 5 ≤ L) (ha1 : xs (nI (i5 + 1)).toNatClampNeg = a1) (ha2 : xs (nI (i5 + 2)).toNatClampNeg = a2) (ha3 : xs (nI (i5 + 3)).toNatClampNeg = a3) (ha4 : xs (nI (i5 + 4)).toNatClampNeg = a4) (hce : cells + 3 ≤ 777099) (hse : slots + 25 ≤ 6764806) (h : zLw dC dI cy s A x f n sc ia na d ka va o mo ad G1 S1 G2 S2 H locs)
    (hl : lv_has ls 7 [(4, .int (nI i5)), (3, .ref o), (2, .ref mo), (1, .ref x), (0, .ref b)]) (kk : ∀ (G1' : zG) (S1' S2' : zS) (H' : Heap) (locs' : List Loc) (ls' : Array Slot), zLw dC dI cy s A x f n sc ia na d ka va o mo ad G1' S1' G2 S2' H' locs' → lv_has ls' 7 [(4, .int (nI i5)), (3, .ref o), (2, .ref mo), (1, .ref x), (0, .ref b)] → W p l e room_1 s m args below meth c H' locs' (cells + 3) (slots + 25) Q (F0 m 784 ls' [])) : W p l e room_1 s m args below meth c H locs cells slots Q (F0 m 756 ls []) := by
  obtain ⟨⟨hx, hb, hml, hown, hts⟩, ⟨hX, hbl, hbA, hL⟩, hA, hK, hN, hE, hNc, hlt⟩ := C
  obtain ⟨⟨hP1, hD1, hP2, hD2, hAp⟩, hS, hC, hM, hR⟩ := h
  refine lv_aload_n hx hb dL_law_756 rfl (lv_at hl 3 rfl) ?_
  refine lv_aload_n hx hb dL_law_757 rfl (lv_at hl 4 rfl) ?_
  refine lv_iload hx hb dL_law_758 (lv_at hl 0 rfl) ?_
  refine lv_iconst (v := 1) hx hb dL_law_760 (by decide) ?_
  refine lv_iadd hx hb dL_law_761 ?_
  refine lv_topi (fun v1 ev1 => ?_)
  obtain rfl : v1 = nI (i5 + 1) := ev1.trans (nI_add i5 1)
  refine va_sld hx hb hX hbl hbA hS (vp_in_nI (by omega) (by omega)) dL_law_762 ?_
  rw [ha1]
  refine lv_aload_n hx hb dL_law_763 rfl (lv_at hl 1 rfl) ?_
  refine zc2i (vx_runSW (As := [.ref x, .int a1, .ref o]) (rest := []) ⟨hx, hb, hml, hown, hts⟩ (w_L_checks l hlt dC dI cy G1 S1 H.size x f n sc ia na d ka va a1 o hC.1 hC.2.1.1 hC.2.1.2) (vx_cwSW 3 hts gL_law_L_checks rfl rfl rfl (by decide +kernel) ⟨Nat.le_of_ble_eq_true rfl, Nat.le_of_ble_eq_true rfl⟩) (zpreSy hK hP1 hD1 hN hE hS hA hNc) rfl rfl hl.1 rfl (lv_room (Nat.le_of_ble_eq_true rfl)) dL_law_764 ⟨by show _ ≤ 777099; omega, by show _ ≤ 6764806; omega⟩) hS hD1 hA hP2 hAp (fun k9 T1 H locs hw hP1 hD1 hP2 hAp hS => ?_)
  refine lv_istore (lv' := [(5, .int k9), (4, .int (nI i5)), (3, .ref o), (2, .ref mo), (1, .ref x), (0, .ref b)]) hx hb dL_law_767 hl (by decide) rfl (fun ls hl => ?_)
  refine lv_aload_n hx hb dL_law_769 rfl (lv_at hl 3 rfl) ?_
  refine lv_aload_n hx hb dL_law_770 rfl (lv_at hl 5 rfl) ?_
  refine lv_iload hx hb dL_law_771 (lv_at hl 1 rfl) ?_
  refine lv_iconst (v := 1) hx hb dL_law_773 (by decide) ?_
  refine lv_iadd hx hb dL_law_774 ?_
  refine lv_topi (fun v2 ev2 => ?_)
  obtain rfl : v2 = nI (i5 + 1) := ev2.trans (nI_add i5 1)
  refine va_sld hx hb hX hbl hbA hS (vp_in_nI (by omega) (by omega)) dL_law_775 ?_
  rw [ha1]
  refine zc2i (va_runV (As := [.int a1]) (rest := []) ⟨hx, hb, hml, hown, hts⟩ (c_X7_checks l dC dI cy G2 S2 H.size mo ad a1 hM.1 hM.2.1) (cwV 1 hts gL_law_X7_checks rfl rfl rfl (by decide +kernel) ⟨Nat.le_of_ble_eq_true rfl, Nat.le_of_ble_eq_true rfl⟩) (zpreV hK hP2 hD2 hN (zrecv7 hK hP2 hM.1.1)) rfl rfl hl.1 rfl (lv_room (Nat.le_of_ble_eq_true rfl)) dL_law_776 ⟨by show _ ≤ 777099; omega, by show _ ≤ 6764806; omega⟩) hS hD2 hA hP1 hAp.symm (fun r2 T2 H locs hm hP2 hD2 hP1 hAp hS => ?_)
  have hAp := hAp.symm
  obtain ⟨hC2, hv2⟩ := k_checks (id := a1) hC hw
  obtain ⟨hM2, hu2⟩ := m_checks hM hm
  have hR2 := hR.vw hv2 hu2
  refine lv_istore (lv' := [(6, .int r2), (5, .int k9), (4, .int (nI i5)), (3, .ref o), (2, .ref mo), (1, .ref x), (0, .ref b)]) hx hb dL_law_779 hl (by decide) rfl (fun ls hl => ?_)
  refine lv_goto (tgt := 784) hx hb dL_law_781 (by decide) ?_
  refine W.widen (k := cells + 3) (n := slots + 25) (by omega) (by omega) ?_
  exact kk _ _ _ _ _ _ ⟨⟨hP1, hD1, hP2, hD2, hAp⟩, hS, hC2, hM2, hR2⟩ (lv_sub hl [2, 3, 4, 5, 6] rfl)
