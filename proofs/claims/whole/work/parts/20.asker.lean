/-- the asker: K 0 itself, K 1 its trace -/
def akW (K : Nat → Nat) (cI : ClassId) (a_cnt a_way a_num a_many a_place a_print : Int32) (a_trace : Nat → Int32) : va_W := [(K 0, .inr (0, [.ref (K 1), .int a_cnt, .int a_way, .int a_num, .int a_many, .int a_place, .int a_print])), (K 1, .inl (cI, 16, .inl a_trace))]
def sX0_traceAt (k : Int32) (a_cnt : Int32) (a_trace : Nat → Int32) : Int32 := if k < 0 then (((-1000000))) else (if a_cnt ≤ k then (((-1000000))) else (if 16 ≤ k then (((-1000000))) else (((a_trace k.toNatClampNeg)))))
set_option maxHeartbeats 4000000 in
set_option maxRecDepth 100000 in
theorem mtX0_traceAt (l : Launch) (D : va_G) (cI cB cK cS : ClassId) (K : Nat → Nat) (R : va_W) (a_cnt : Int32) (a_way : Int32) (a_num : Int32) (a_many : Int32) (a_place : Int32) (a_print : Int32) (a_trace : Nat → Int32) (k : Int32) : MX l yX0_traceAt wsX0_traceAt (rmX 1) D (tyX cI cB cK cS) pF0 (akW K cI a_cnt a_way a_num a_many a_place a_print a_trace ++ R) [.ref (K 0), .int k] (sX0_traceAt k a_cnt a_trace) (fun u => some (.int u)) (fun _ => akW K cI a_cnt a_way a_num a_many a_place a_print a_trace ++ R) := by
  refine mx_intro (cc := cX0_traceAt) (maxL := 2) (ret := (some .int)) (by decide) rfl (Nat.le_of_ble_eq_true rfl) ?_
  intro p e s m below meth c A ls H locs Qm hQm hx hb hr hml hts hown hlocks hA hS hP hK hD hF hl
  have hown : s.vm.findClass RX0 = some m.cls := hown
  have hl : lv_has ls 2 [(0, .ref (K 0)), (1, .int k)] := hl
  have k45 := hts (.constant RX0 45 (-1000000)) (by decide +kernel)
  have k15 := hts (.fieldLink RX0 15 "PigRounds$Asker" "tracedCount" "I") (by decide +kernel)
  have k11 := hts (.fieldLink RX0 11 "PigRounds$Asker" "traced" "[I") (by decide +kernel)
  have iX0 : ∀ w ∈ u_ws RX0 TX0 7, w ∈ wsX0_traceAt := by decide +kernel
  refine lv_iload_n hx hb dX0_traceAt_0 rfl (lv_at hl 1 rfl) ?_
  refine lv_if_lt (tgt := 30) hx hb dX0_traceAt_1 (by decide) (fun c_1 => ?_) (fun c_1 => ?_)
  · have d_1 := i_lt rfl (show (0 : Int32).toInt = 0 from by decide) c_1
    refine lv_ldc (v := (-1000000)) hx hb hown k45 dX0_traceAt_30 ?_
    rw [hQm]
    exact mx_iret (u0 := sX0_traceAt k a_cnt a_trace) (rv := (fun u => some (.int u))) (w1 := (fun _ => akW K cI a_cnt a_way a_num a_many a_place a_print a_trace ++ R)) (u := ((-1000000))) hx hb hr hlocks hK hS ((if_pos c_1).trans rfl) hP hD rfl dX0_traceAt_32
  · have d_1 := i_ltn rfl (show (0 : Int32).toInt = 0 from by decide) c_1
    refine lv_iload_n hx hb dX0_traceAt_4 rfl (lv_at hl 1 rfl) ?_
    refine lv_aload_n hx hb dX0_traceAt_5 rfl (lv_at hl 0 rfl) ?_
    refine va_get (D := D) (ci := 0) (v := .int a_cnt) (C := RX0) (T := TX0) (N := 7) hx hb hts iX0 hown hK hP 0 rfl rfl 1 (by decide) k15 (fun _ h9 => h9) rfl dX0_traceAt_6 ?_
    refine lv_icmp_ge (tgt := 30) hx hb dX0_traceAt_9 (by decide) (fun c_2 => ?_) (fun c_2 => ?_)
    · have d_2 := i_le rfl rfl c_2
      refine lv_ldc (v := (-1000000)) hx hb hown k45 dX0_traceAt_30 ?_
      rw [hQm]
      exact mx_iret (u0 := sX0_traceAt k a_cnt a_trace) (rv := (fun u => some (.int u))) (w1 := (fun _ => akW K cI a_cnt a_way a_num a_many a_place a_print a_trace ++ R)) (u := ((-1000000))) hx hb hr hlocks hK hS ((if_neg c_1).trans ((if_pos c_2).trans rfl)) hP hD rfl dX0_traceAt_32
    · have d_2 := i_len rfl rfl c_2
      refine lv_iload_n hx hb dX0_traceAt_12 rfl (lv_at hl 1 rfl) ?_
      refine lv_aload_n hx hb dX0_traceAt_13 rfl (lv_at hl 0 rfl) ?_
      refine va_get (D := D) (ci := 0) (v := .ref (K 1)) (C := RX0) (T := TX0) (N := 7) hx hb hts iX0 hown hK hP 0 rfl rfl 0 (by decide) k11 (fun _ h9 => h9) rfl dX0_traceAt_14 ?_
      refine va_alen (v := 16) hx hb hK hP 1 0 rfl rfl rfl dX0_traceAt_17 ?_
      refine lv_icmp_ge (tgt := 30) hx hb dX0_traceAt_18 (by decide) (fun c_3 => ?_) (fun c_3 => ?_)
      · have d_3 := i_le (show (16 : Int32).toInt = 16 from by decide) rfl c_3
        refine lv_ldc (v := (-1000000)) hx hb hown k45 dX0_traceAt_30 ?_
        rw [hQm]
        exact mx_iret (u0 := sX0_traceAt k a_cnt a_trace) (rv := (fun u => some (.int u))) (w1 := (fun _ => akW K cI a_cnt a_way a_num a_many a_place a_print a_trace ++ R)) (u := ((-1000000))) hx hb hr hlocks hK hS ((if_neg c_1).trans ((if_neg c_2).trans ((if_pos c_3).trans rfl))) hP hD rfl dX0_traceAt_32
      · have d_3 := i_len (show (16 : Int32).toInt = 16 from by decide) rfl c_3
        refine lv_aload_n hx hb dX0_traceAt_21 rfl (lv_at hl 0 rfl) ?_
        refine va_get (D := D) (ci := 0) (v := .ref (K 1)) (C := RX0) (T := TX0) (N := 7) hx hb hts iX0 hown hK hP 0 rfl rfl 0 (by decide) k11 (fun _ h9 => h9) rfl dX0_traceAt_22 ?_
        refine lv_iload_n hx hb dX0_traceAt_25 rfl (lv_at hl 1 rfl) ?_
        have q_4 : vp_in k 16 := vp_in_iff.mpr ⟨by omega, by omega⟩
        refine va_iald hx hb hK hP 1 0 rfl rfl q_4 dX0_traceAt_26 ?_
        refine lv_goto (tgt := 32) hx hb dX0_traceAt_27 (by decide) ?_
        rw [hQm]
        exact mx_iret (u0 := sX0_traceAt k a_cnt a_trace) (rv := (fun u => some (.int u))) (w1 := (fun _ => akW K cI a_cnt a_way a_num a_many a_place a_print a_trace ++ R)) (u := ((a_trace k.toNatClampNeg))) hx hb hr hlocks hK hS ((if_neg c_1).trans ((if_neg c_2).trans ((if_neg c_3).trans rfl))) hP hD rfl dX0_traceAt_32

def sX0_leaveInTrace (k : Int32) (a_cnt : Int32) (a_trace : Nat → Int32) : (Int32) × (Nat → Int32) := if 16 ≤ a_cnt then ((a_cnt, a_trace)) else (lt (upd a_trace a_cnt.toNatClampNeg k) (fun ar_3 : Nat → Int32 => (a_cnt + 1, ar_3)))
set_option maxHeartbeats 4000000 in
set_option maxRecDepth 100000 in
theorem mtX0_leaveInTrace (l : Launch) (D : va_G) (cI cB cK cS : ClassId) (K : Nat → Nat) (R : va_W) (a_cnt : Int32) (a_way : Int32) (a_num : Int32) (a_many : Int32) (a_place : Int32) (a_print : Int32) (a_trace : Nat → Int32) (k : Int32) (hc0 : 0 ≤ a_cnt.toInt) : MX l yX0_leaveInTrace wsX0_leaveInTrace (rmX 1) D (tyX cI cB cK cS) pF0 (akW K cI a_cnt a_way a_num a_many a_place a_print a_trace ++ R) [.ref (K 0), .int k] (sX0_leaveInTrace k a_cnt a_trace) (fun _ => none) (fun u => akW K cI u.1 a_way a_num a_many a_place a_print u.2 ++ R) := by
  refine mx_intro (cc := cX0_leaveInTrace) (maxL := 2) (ret := none) (by decide) rfl (Nat.le_of_ble_eq_true rfl) ?_
  intro p e s m below meth c A ls H locs Qm hQm hx hb hr hml hts hown hlocks hA hS hP hK hD hF hl
  have hown : s.vm.findClass RX0 = some m.cls := hown
  have hl : lv_has ls 2 [(0, .ref (K 0)), (1, .int k)] := hl
  have k15 := hts (.fieldLink RX0 15 "PigRounds$Asker" "tracedCount" "I") (by decide +kernel)
  have k11 := hts (.fieldLink RX0 11 "PigRounds$Asker" "traced" "[I") (by decide +kernel)
  have iX0 : ∀ w ∈ u_ws RX0 TX0 7, w ∈ wsX0_leaveInTrace := by decide +kernel
  refine lv_aload_n hx hb dX0_leaveInTrace_0 rfl (lv_at hl 0 rfl) ?_
  refine va_get (D := D) (ci := 0) (v := .int a_cnt) (C := RX0) (T := TX0) (N := 7) hx hb hts iX0 hown hK hP 0 rfl rfl 1 (by decide) k15 (fun _ h9 => h9) rfl dX0_leaveInTrace_1 ?_
  refine lv_aload_n hx hb dX0_leaveInTrace_4 rfl (lv_at hl 0 rfl) ?_
  refine va_get (D := D) (ci := 0) (v := .ref (K 1)) (C := RX0) (T := TX0) (N := 7) hx hb hts iX0 hown hK hP 0 rfl rfl 0 (by decide) k11 (fun _ h9 => h9) rfl dX0_leaveInTrace_5 ?_
  refine va_alen (v := 16) hx hb hK hP 1 0 rfl rfl rfl dX0_leaveInTrace_8 ?_
  refine lv_icmp_ge (tgt := 32) hx hb dX0_leaveInTrace_9 (by decide) (fun c_1 => ?_) (fun c_1 => ?_)
  · have d_1 := i_le (show (16 : Int32).toInt = 16 from by decide) rfl c_1
    rw [hQm]
    exact mx_vret (u0 := sX0_leaveInTrace k a_cnt a_trace) (rv := (fun _ => none)) (w1 := (fun u => akW K cI u.1 a_way a_num a_many a_place a_print u.2 ++ R)) (u := (a_cnt, a_trace)) hx hb hr hlocks hK hS ((if_pos c_1).trans rfl) hP hD rfl dX0_leaveInTrace_32
  · have d_1 := i_len (show (16 : Int32).toInt = 16 from by decide) rfl c_1
    refine lv_aload_n hx hb dX0_leaveInTrace_12 rfl (lv_at hl 0 rfl) ?_
    refine va_get (D := D) (ci := 0) (v := .ref (K 1)) (C := RX0) (T := TX0) (N := 7) hx hb hts iX0 hown hK hP 0 rfl rfl 0 (by decide) k11 (fun _ h9 => h9) rfl dX0_leaveInTrace_13 ?_
    refine lv_aload_n hx hb dX0_leaveInTrace_16 rfl (lv_at hl 0 rfl) ?_
    refine va_get (D := D) (ci := 0) (v := .int a_cnt) (C := RX0) (T := TX0) (N := 7) hx hb hts iX0 hown hK hP 0 rfl rfl 1 (by decide) k15 (fun _ h9 => h9) rfl dX0_leaveInTrace_17 ?_
    refine lv_iload_n hx hb dX0_leaveInTrace_20 rfl (lv_at hl 1 rfl) ?_
    have q_2 : vp_in a_cnt 16 := vp_in_iff.mpr ⟨by omega, by omega⟩
    refine va_iast hx hb hK hP hD hS 1 0 rfl rfl q_2 dX0_leaveInTrace_21 (fun H locs hP hD hS => ?_)
    obtain ⟨ar_3, ear_3⟩ : ∃ z : Nat → Int32, z = upd a_trace a_cnt.toNatClampNeg k := ⟨_, rfl⟩
    have hP : va_P D vwCl (akW K cI a_cnt a_way a_num a_many a_place a_print (upd a_trace a_cnt.toNatClampNeg k) ++ R) H := hP
    have hD : va_D A (akW K cI a_cnt a_way a_num a_many a_place a_print (upd a_trace a_cnt.toNatClampNeg k) ++ R) := hD
    rw [← ear_3] at hP hD
    have hP : va_P D vwCl (akW K cI a_cnt a_way a_num a_many a_place a_print ar_3 ++ R) H := hP
    have hD : va_D A (akW K cI a_cnt a_way a_num a_many a_place a_print ar_3 ++ R) := hD
    refine lv_aload_n hx hb dX0_leaveInTrace_22 rfl (lv_at hl 0 rfl) ?_
    refine lv_dup hx hb dX0_leaveInTrace_23 rfl ?_
    refine va_get (D := D) (ci := 0) (v := .int a_cnt) (C := RX0) (T := TX0) (N := 7) hx hb hts iX0 hown hK hP 0 rfl rfl 1 (by decide) k15 (fun _ h9 => h9) rfl dX0_leaveInTrace_24 ?_
    refine lv_iconst (v := 1) hx hb dX0_leaveInTrace_27 (by decide) ?_
    refine lv_iadd hx hb dX0_leaveInTrace_28 ?_
    refine va_put (D := D) (ci := 0) (v := .int (a_cnt + 1)) (ty := .int) (C := RX0) (T := TX0) (N := 7) hx hb hts iX0 tyX0 tyX0_ok nmX0 hown hK hP hD hS 0 rfl rfl 1 (by decide) k15 (fun _ h9 => h9) rfl (by decide +kernel) rfl rfl (Nat.le_of_ble_eq_true rfl) dX0_leaveInTrace_29 (fun H locs hP hD hS => ?_)
    have hP : va_P D vwCl (akW K cI (a_cnt + 1) a_way a_num a_many a_place a_print ar_3 ++ R) H := hP
    have hD : va_D A (akW K cI (a_cnt + 1) a_way a_num a_many a_place a_print ar_3 ++ R) := hD
    rw [hQm]
    exact mx_vret (u0 := sX0_leaveInTrace k a_cnt a_trace) (rv := (fun _ => none)) (w1 := (fun u => akW K cI u.1 a_way a_num a_many a_place a_print u.2 ++ R)) (u := (a_cnt + 1, ar_3)) hx hb hr hlocks hK hS ((if_neg c_1).trans (lt_eq ear_3 rfl)) hP hD rfl dX0_leaveInTrace_32
def sX10_trace (k : Int32) (a_cnt : Int32) (a_trace : Nat → Int32) : Int32 := lt (sX0_traceAt k a_cnt a_trace) (fun u_1 : Int32 => (u_1))
set_option maxHeartbeats 4000000 in
set_option maxRecDepth 100000 in
theorem mtX10_trace (l : Launch) (D : va_G) (cI cB cK cS : ClassId) (B S U Q V K Z2 Z3 : Nat → Nat) (R : va_W) (a_cnt : Int32) (a_way : Int32) (a_num : Int32) (a_many : Int32) (a_place : Int32) (a_print : Int32) (a_trace : Nat → Int32) (g_landed : Int32) (g_fault : Int32) (g_find : Int32) (k : Int32) : MX l yX10_trace wsX10_trace (rmX 2) D (tyX cI cB cK cS) pF0 (akW K cI a_cnt a_way a_num a_many a_place a_print a_trace ++ (pigW B S U Q V K Z2 Z3 g_landed g_fault g_find ++ R)) [.ref (B 0), .int k] (sX10_trace k a_cnt a_trace) (fun u => some (.int u)) (fun _ => akW K cI a_cnt a_way a_num a_many a_place a_print a_trace ++ (pigW B S U Q V K Z2 Z3 g_landed g_fault g_find ++ R)) := by
  refine mx_intro (cc := cX10_trace) (maxL := 2) (ret := (some .int)) (by decide) rfl (Nat.le_of_ble_eq_true rfl) ?_
  intro p e s m below meth c A ls H locs Qm hQm hx hb hr hml hts hown hlocks hA hS hP hK hD hF hl
  have hown : s.vm.findClass RX10 = some m.cls := hown
  have hl : lv_has ls 2 [(0, .ref (B 0)), (1, .int k)] := hl
  have k41 := hts (.fieldLink RX10 41 "PigRounds" "asker" "LPigRounds$Asker;") (by decide +kernel)
  have iX10 : ∀ w ∈ u_ws RX10 TX10 10, w ∈ wsX10_trace := by decide +kernel
  refine lv_aload_n hx hb dX10_trace_0 rfl (lv_at hl 0 rfl) ?_
  refine va_get (D := D) (ci := 8) (v := .ref (K 0)) (C := RX10) (T := TX10) (N := 10) hx hb hts iX10 hown hK hP 2 rfl rfl 4 (by decide) k41 (fun _ h9 => h9) rfl dX10_trace_1 ?_
  refine lv_iload_n hx hb dX10_trace_4 rfl (lv_at hl 1 rfl) ?_
  refine mx_callV (As := [.int k]) (rest := []) ⟨hx, hb, hml, hown, hts⟩ (mtX0_traceAt l D cI cB cK cS K (pigW B S U Q V K Z2 Z3 g_landed g_fault g_find ++ R) a_cnt a_way a_num a_many a_place a_print a_trace k) (cwV 1 hts gX10_trace_X0_traceAt rfl rfl rfl (by decide +kernel) ⟨Nat.le_of_ble_eq_true rfl, Nat.le_of_ble_eq_true rfl⟩) pF0_ok trivial hK hP hD hS hA 0 rfl rfl rfl rfl hl.1 rfl (Nat.le_of_ble_eq_true rfl) dX10_trace_5 ⟨Nat.le_refl _, Nat.le_refl _⟩ (fun u_1 H locs eu_1 hP hD hS => ?_)
  refine W.eq (g2 := F0 m 8 ls [.int u_1]) rfl ?_
  have hP : va_P D vwCl (akW K cI a_cnt a_way a_num a_many a_place a_print a_trace ++ (pigW B S U Q V K Z2 Z3 g_landed g_fault g_find ++ R)) H := hP
  have hD : va_D A (akW K cI a_cnt a_way a_num a_many a_place a_print a_trace ++ (pigW B S U Q V K Z2 Z3 g_landed g_fault g_find ++ R)) := hD
  rw [hQm]
  exact mx_iret (u0 := sX10_trace k a_cnt a_trace) (rv := (fun u => some (.int u))) (w1 := (fun _ => akW K cI a_cnt a_way a_num a_many a_place a_print a_trace ++ (pigW B S U Q V K Z2 Z3 g_landed g_fault g_find ++ R))) (u := (u_1)) hx hb hr hlocks hK hS (lt_eq eu_1 rfl) hP hD rfl dX10_trace_8
/-- the reader: Q 0 itself, Q 1 its numbers; its tape is at U 0 -/
def rdW (Q U : Nat → Nat) (cI : ClassId) (d_place d_token d_value d_start d_fault : Int32) (d_num : Nat → Int32) : va_W := [(Q 0, .inr (4, [.ref (U 0), .ref (Q 1), .int d_place, .int d_token, .int d_value, .int d_start, .int d_fault])), (Q 1, .inl (cI, 5, .inl d_num))]
def pl_ok (x : Int32) : Prop := 0 ≤ x.toInt ∧ x.toInt ≤ 400
def sX4_classOf (k : Int32) : Int32 := if k = (-1) then ((0)) else (if k < 97 then (if k < 48 then (if k = 59 then ((3)) else (if k = 32 then ((4)) else (if k = 10 then ((4)) else ((5))))) else (if 57 < k then (if k = 59 then ((3)) else (if k = 32 then ((4)) else (if k = 10 then ((4)) else ((5))))) else ((2)))) else (if 122 < k then (if k < 48 then (if k = 59 then ((3)) else (if k = 32 then ((4)) else (if k = 10 then ((4)) else ((5))))) else (if 57 < k then (if k = 59 then ((3)) else (if k = 32 then ((4)) else (if k = 10 then ((4)) else ((5))))) else ((2)))) else ((1))))
set_option maxHeartbeats 4000000 in
set_option maxRecDepth 100000 in
theorem mtX4_classOf (l : Launch) (D : va_G) (cI cB cK cS : ClassId) (ws : va_W)  (k : Int32) : MX l yX4_classOf wsX4_classOf (rmX 1) D (tyX cI cB cK cS) pF0 (ws) [.int k] (sX4_classOf k) (fun u => some (.int u)) (fun _ => ws) := by
  refine mx_intro (cc := cX4_classOf) (maxL := 1) (ret := (some .int)) (by decide) rfl (Nat.le_of_ble_eq_true rfl) ?_
  intro p e s m below meth c A ls H locs Qm hQm hx hb hr hml hts hown hlocks hA hS hP hK hD hF hl
  have hown : s.vm.findClass RX4 = some m.cls := hown
  have hl : lv_has ls 1 [(0, .int k)] := hl
  refine lv_iload_n hx hb dX4_classOf_0 rfl (lv_at hl 0 rfl) ?_
  refine lv_iconst (v := (-1)) hx hb dX4_classOf_1 (by decide) ?_
  refine lv_icmp_ne (tgt := 7) hx hb dX4_classOf_2 (by decide) (fun c_1 => ?_) (fun c_1 => ?_)
  · refine lv_iload_n hx hb dX4_classOf_7 rfl (lv_at hl 0 rfl) ?_
    refine lv_bipush (v := 97) hx hb dX4_classOf_8 (by decide) ?_
    refine lv_icmp_lt (tgt := 21) hx hb dX4_classOf_10 (by decide) (fun c_2 => ?_) (fun c_2 => ?_)
    · refine lv_iload_n hx hb dX4_classOf_21 rfl (lv_at hl 0 rfl) ?_
      refine lv_bipush (v := 48) hx hb dX4_classOf_22 (by decide) ?_
      refine lv_icmp_lt (tgt := 35) hx hb dX4_classOf_24 (by decide) (fun c_3 => ?_) (fun c_3 => ?_)
      · refine lv_iload_n hx hb dX4_classOf_35 rfl (lv_at hl 0 rfl) ?_
        refine lv_bipush (v := 59) hx hb dX4_classOf_36 (by decide) ?_
        refine lv_icmp_ne (tgt := 43) hx hb dX4_classOf_38 (by decide) (fun c_4 => ?_) (fun c_4 => ?_)
        · refine lv_iload_n hx hb dX4_classOf_43 rfl (lv_at hl 0 rfl) ?_
          refine lv_bipush (v := 32) hx hb dX4_classOf_44 (by decide) ?_
          refine lv_icmp_eq (tgt := 55) hx hb dX4_classOf_46 (by decide) (fun c_5 => ?_) (fun c_5 => ?_)
          · refine lv_iconst (v := 4) hx hb dX4_classOf_55 (by decide) ?_
            refine lv_goto (tgt := 60) hx hb dX4_classOf_56 (by decide) ?_
            rw [hQm]
            exact mx_iret (u0 := sX4_classOf k) (rv := (fun u => some (.int u))) (w1 := (fun _ => ws)) (u := (4)) hx hb hr hlocks hK hS ((if_neg c_1).trans ((if_pos c_2).trans ((if_pos c_3).trans ((if_neg c_4).trans ((if_pos c_5).trans rfl))))) hP hD rfl dX4_classOf_60
          · refine lv_iload_n hx hb dX4_classOf_49 rfl (lv_at hl 0 rfl) ?_
            refine lv_bipush (v := 10) hx hb dX4_classOf_50 (by decide) ?_
            refine lv_icmp_ne (tgt := 59) hx hb dX4_classOf_52 (by decide) (fun c_6 => ?_) (fun c_6 => ?_)
            · refine lv_iconst (v := 5) hx hb dX4_classOf_59 (by decide) ?_
              rw [hQm]
              exact mx_iret (u0 := sX4_classOf k) (rv := (fun u => some (.int u))) (w1 := (fun _ => ws)) (u := (5)) hx hb hr hlocks hK hS ((if_neg c_1).trans ((if_pos c_2).trans ((if_pos c_3).trans ((if_neg c_4).trans ((if_neg c_5).trans ((if_neg c_6).trans rfl)))))) hP hD rfl dX4_classOf_60
            · refine lv_iconst (v := 4) hx hb dX4_classOf_55 (by decide) ?_
              refine lv_goto (tgt := 60) hx hb dX4_classOf_56 (by decide) ?_
              rw [hQm]
              exact mx_iret (u0 := sX4_classOf k) (rv := (fun u => some (.int u))) (w1 := (fun _ => ws)) (u := (4)) hx hb hr hlocks hK hS ((if_neg c_1).trans ((if_pos c_2).trans ((if_pos c_3).trans ((if_neg c_4).trans ((if_neg c_5).trans ((if_pos c_6).trans rfl)))))) hP hD rfl dX4_classOf_60
        · refine lv_iconst (v := 3) hx hb dX4_classOf_41 (by decide) ?_
          rw [hQm]
          exact mx_iret (u0 := sX4_classOf k) (rv := (fun u => some (.int u))) (w1 := (fun _ => ws)) (u := (3)) hx hb hr hlocks hK hS ((if_neg c_1).trans ((if_pos c_2).trans ((if_pos c_3).trans ((if_pos c_4).trans rfl)))) hP hD rfl dX4_classOf_42
      · refine lv_iload_n hx hb dX4_classOf_27 rfl (lv_at hl 0 rfl) ?_
        refine lv_bipush (v := 57) hx hb dX4_classOf_28 (by decide) ?_
        refine lv_icmp_gt (tgt := 35) hx hb dX4_classOf_30 (by decide) (fun c_7 => ?_) (fun c_7 => ?_)
        · refine lv_iload_n hx hb dX4_classOf_35 rfl (lv_at hl 0 rfl) ?_
          refine lv_bipush (v := 59) hx hb dX4_classOf_36 (by decide) ?_
          refine lv_icmp_ne (tgt := 43) hx hb dX4_classOf_38 (by decide) (fun c_8 => ?_) (fun c_8 => ?_)
          · refine lv_iload_n hx hb dX4_classOf_43 rfl (lv_at hl 0 rfl) ?_
            refine lv_bipush (v := 32) hx hb dX4_classOf_44 (by decide) ?_
            refine lv_icmp_eq (tgt := 55) hx hb dX4_classOf_46 (by decide) (fun c_9 => ?_) (fun c_9 => ?_)
            · refine lv_iconst (v := 4) hx hb dX4_classOf_55 (by decide) ?_
              refine lv_goto (tgt := 60) hx hb dX4_classOf_56 (by decide) ?_
              rw [hQm]
              exact mx_iret (u0 := sX4_classOf k) (rv := (fun u => some (.int u))) (w1 := (fun _ => ws)) (u := (4)) hx hb hr hlocks hK hS ((if_neg c_1).trans ((if_pos c_2).trans ((if_neg c_3).trans ((if_pos c_7).trans ((if_neg c_8).trans ((if_pos c_9).trans rfl)))))) hP hD rfl dX4_classOf_60
            · refine lv_iload_n hx hb dX4_classOf_49 rfl (lv_at hl 0 rfl) ?_
              refine lv_bipush (v := 10) hx hb dX4_classOf_50 (by decide) ?_
              refine lv_icmp_ne (tgt := 59) hx hb dX4_classOf_52 (by decide) (fun c_10 => ?_) (fun c_10 => ?_)
              · refine lv_iconst (v := 5) hx hb dX4_classOf_59 (by decide) ?_
                rw [hQm]
                exact mx_iret (u0 := sX4_classOf k) (rv := (fun u => some (.int u))) (w1 := (fun _ => ws)) (u := (5)) hx hb hr hlocks hK hS ((if_neg c_1).trans ((if_pos c_2).trans ((if_neg c_3).trans ((if_pos c_7).trans ((if_neg c_8).trans ((if_neg c_9).trans ((if_neg c_10).trans rfl))))))) hP hD rfl dX4_classOf_60
              · refine lv_iconst (v := 4) hx hb dX4_classOf_55 (by decide) ?_
                refine lv_goto (tgt := 60) hx hb dX4_classOf_56 (by decide) ?_
                rw [hQm]
                exact mx_iret (u0 := sX4_classOf k) (rv := (fun u => some (.int u))) (w1 := (fun _ => ws)) (u := (4)) hx hb hr hlocks hK hS ((if_neg c_1).trans ((if_pos c_2).trans ((if_neg c_3).trans ((if_pos c_7).trans ((if_neg c_8).trans ((if_neg c_9).trans ((if_pos c_10).trans rfl))))))) hP hD rfl dX4_classOf_60
          · refine lv_iconst (v := 3) hx hb dX4_classOf_41 (by decide) ?_
            rw [hQm]
            exact mx_iret (u0 := sX4_classOf k) (rv := (fun u => some (.int u))) (w1 := (fun _ => ws)) (u := (3)) hx hb hr hlocks hK hS ((if_neg c_1).trans ((if_pos c_2).trans ((if_neg c_3).trans ((if_pos c_7).trans ((if_pos c_8).trans rfl))))) hP hD rfl dX4_classOf_42
        · refine lv_iconst (v := 2) hx hb dX4_classOf_33 (by decide) ?_
          rw [hQm]
          exact mx_iret (u0 := sX4_classOf k) (rv := (fun u => some (.int u))) (w1 := (fun _ => ws)) (u := (2)) hx hb hr hlocks hK hS ((if_neg c_1).trans ((if_pos c_2).trans ((if_neg c_3).trans ((if_neg c_7).trans rfl)))) hP hD rfl dX4_classOf_34
    · refine lv_iload_n hx hb dX4_classOf_13 rfl (lv_at hl 0 rfl) ?_
      refine lv_bipush (v := 122) hx hb dX4_classOf_14 (by decide) ?_
      refine lv_icmp_gt (tgt := 21) hx hb dX4_classOf_16 (by decide) (fun c_11 => ?_) (fun c_11 => ?_)
      · refine lv_iload_n hx hb dX4_classOf_21 rfl (lv_at hl 0 rfl) ?_
        refine lv_bipush (v := 48) hx hb dX4_classOf_22 (by decide) ?_
        refine lv_icmp_lt (tgt := 35) hx hb dX4_classOf_24 (by decide) (fun c_12 => ?_) (fun c_12 => ?_)
        · refine lv_iload_n hx hb dX4_classOf_35 rfl (lv_at hl 0 rfl) ?_
          refine lv_bipush (v := 59) hx hb dX4_classOf_36 (by decide) ?_
          refine lv_icmp_ne (tgt := 43) hx hb dX4_classOf_38 (by decide) (fun c_13 => ?_) (fun c_13 => ?_)
          · refine lv_iload_n hx hb dX4_classOf_43 rfl (lv_at hl 0 rfl) ?_
            refine lv_bipush (v := 32) hx hb dX4_classOf_44 (by decide) ?_
            refine lv_icmp_eq (tgt := 55) hx hb dX4_classOf_46 (by decide) (fun c_14 => ?_) (fun c_14 => ?_)
            · refine lv_iconst (v := 4) hx hb dX4_classOf_55 (by decide) ?_
              refine lv_goto (tgt := 60) hx hb dX4_classOf_56 (by decide) ?_
              rw [hQm]
              exact mx_iret (u0 := sX4_classOf k) (rv := (fun u => some (.int u))) (w1 := (fun _ => ws)) (u := (4)) hx hb hr hlocks hK hS ((if_neg c_1).trans ((if_neg c_2).trans ((if_pos c_11).trans ((if_pos c_12).trans ((if_neg c_13).trans ((if_pos c_14).trans rfl)))))) hP hD rfl dX4_classOf_60
            · refine lv_iload_n hx hb dX4_classOf_49 rfl (lv_at hl 0 rfl) ?_
              refine lv_bipush (v := 10) hx hb dX4_classOf_50 (by decide) ?_
              refine lv_icmp_ne (tgt := 59) hx hb dX4_classOf_52 (by decide) (fun c_15 => ?_) (fun c_15 => ?_)
              · refine lv_iconst (v := 5) hx hb dX4_classOf_59 (by decide) ?_
                rw [hQm]
                exact mx_iret (u0 := sX4_classOf k) (rv := (fun u => some (.int u))) (w1 := (fun _ => ws)) (u := (5)) hx hb hr hlocks hK hS ((if_neg c_1).trans ((if_neg c_2).trans ((if_pos c_11).trans ((if_pos c_12).trans ((if_neg c_13).trans ((if_neg c_14).trans ((if_neg c_15).trans rfl))))))) hP hD rfl dX4_classOf_60
              · refine lv_iconst (v := 4) hx hb dX4_classOf_55 (by decide) ?_
                refine lv_goto (tgt := 60) hx hb dX4_classOf_56 (by decide) ?_
                rw [hQm]
                exact mx_iret (u0 := sX4_classOf k) (rv := (fun u => some (.int u))) (w1 := (fun _ => ws)) (u := (4)) hx hb hr hlocks hK hS ((if_neg c_1).trans ((if_neg c_2).trans ((if_pos c_11).trans ((if_pos c_12).trans ((if_neg c_13).trans ((if_neg c_14).trans ((if_pos c_15).trans rfl))))))) hP hD rfl dX4_classOf_60
          · refine lv_iconst (v := 3) hx hb dX4_classOf_41 (by decide) ?_
            rw [hQm]
            exact mx_iret (u0 := sX4_classOf k) (rv := (fun u => some (.int u))) (w1 := (fun _ => ws)) (u := (3)) hx hb hr hlocks hK hS ((if_neg c_1).trans ((if_neg c_2).trans ((if_pos c_11).trans ((if_pos c_12).trans ((if_pos c_13).trans rfl))))) hP hD rfl dX4_classOf_42
        · refine lv_iload_n hx hb dX4_classOf_27 rfl (lv_at hl 0 rfl) ?_
          refine lv_bipush (v := 57) hx hb dX4_classOf_28 (by decide) ?_
          refine lv_icmp_gt (tgt := 35) hx hb dX4_classOf_30 (by decide) (fun c_16 => ?_) (fun c_16 => ?_)
          · refine lv_iload_n hx hb dX4_classOf_35 rfl (lv_at hl 0 rfl) ?_
            refine lv_bipush (v := 59) hx hb dX4_classOf_36 (by decide) ?_
            refine lv_icmp_ne (tgt := 43) hx hb dX4_classOf_38 (by decide) (fun c_17 => ?_) (fun c_17 => ?_)
            · refine lv_iload_n hx hb dX4_classOf_43 rfl (lv_at hl 0 rfl) ?_
              refine lv_bipush (v := 32) hx hb dX4_classOf_44 (by decide) ?_
              refine lv_icmp_eq (tgt := 55) hx hb dX4_classOf_46 (by decide) (fun c_18 => ?_) (fun c_18 => ?_)
              · refine lv_iconst (v := 4) hx hb dX4_classOf_55 (by decide) ?_
                refine lv_goto (tgt := 60) hx hb dX4_classOf_56 (by decide) ?_
                rw [hQm]
                exact mx_iret (u0 := sX4_classOf k) (rv := (fun u => some (.int u))) (w1 := (fun _ => ws)) (u := (4)) hx hb hr hlocks hK hS ((if_neg c_1).trans ((if_neg c_2).trans ((if_pos c_11).trans ((if_neg c_12).trans ((if_pos c_16).trans ((if_neg c_17).trans ((if_pos c_18).trans rfl))))))) hP hD rfl dX4_classOf_60
              · refine lv_iload_n hx hb dX4_classOf_49 rfl (lv_at hl 0 rfl) ?_
                refine lv_bipush (v := 10) hx hb dX4_classOf_50 (by decide) ?_
                refine lv_icmp_ne (tgt := 59) hx hb dX4_classOf_52 (by decide) (fun c_19 => ?_) (fun c_19 => ?_)
                · refine lv_iconst (v := 5) hx hb dX4_classOf_59 (by decide) ?_
                  rw [hQm]
                  exact mx_iret (u0 := sX4_classOf k) (rv := (fun u => some (.int u))) (w1 := (fun _ => ws)) (u := (5)) hx hb hr hlocks hK hS ((if_neg c_1).trans ((if_neg c_2).trans ((if_pos c_11).trans ((if_neg c_12).trans ((if_pos c_16).trans ((if_neg c_17).trans ((if_neg c_18).trans ((if_neg c_19).trans rfl)))))))) hP hD rfl dX4_classOf_60
                · refine lv_iconst (v := 4) hx hb dX4_classOf_55 (by decide) ?_
                  refine lv_goto (tgt := 60) hx hb dX4_classOf_56 (by decide) ?_
                  rw [hQm]
                  exact mx_iret (u0 := sX4_classOf k) (rv := (fun u => some (.int u))) (w1 := (fun _ => ws)) (u := (4)) hx hb hr hlocks hK hS ((if_neg c_1).trans ((if_neg c_2).trans ((if_pos c_11).trans ((if_neg c_12).trans ((if_pos c_16).trans ((if_neg c_17).trans ((if_neg c_18).trans ((if_pos c_19).trans rfl)))))))) hP hD rfl dX4_classOf_60
            · refine lv_iconst (v := 3) hx hb dX4_classOf_41 (by decide) ?_
              rw [hQm]
              exact mx_iret (u0 := sX4_classOf k) (rv := (fun u => some (.int u))) (w1 := (fun _ => ws)) (u := (3)) hx hb hr hlocks hK hS ((if_neg c_1).trans ((if_neg c_2).trans ((if_pos c_11).trans ((if_neg c_12).trans ((if_pos c_16).trans ((if_pos c_17).trans rfl)))))) hP hD rfl dX4_classOf_42
          · refine lv_iconst (v := 2) hx hb dX4_classOf_33 (by decide) ?_
            rw [hQm]
            exact mx_iret (u0 := sX4_classOf k) (rv := (fun u => some (.int u))) (w1 := (fun _ => ws)) (u := (2)) hx hb hr hlocks hK hS ((if_neg c_1).trans ((if_neg c_2).trans ((if_pos c_11).trans ((if_neg c_12).trans ((if_neg c_16).trans rfl))))) hP hD rfl dX4_classOf_34
      · refine lv_iconst (v := 1) hx hb dX4_classOf_19 (by decide) ?_
        rw [hQm]
        exact mx_iret (u0 := sX4_classOf k) (rv := (fun u => some (.int u))) (w1 := (fun _ => ws)) (u := (1)) hx hb hr hlocks hK hS ((if_neg c_1).trans ((if_neg c_2).trans ((if_neg c_11).trans rfl))) hP hD rfl dX4_classOf_20
  · refine lv_iconst (v := 0) hx hb dX4_classOf_5 (by decide) ?_
    rw [hQm]
    exact mx_iret (u0 := sX4_classOf k) (rv := (fun u => some (.int u))) (w1 := (fun _ => ws)) (u := (0)) hx hb hr hlocks hK hS ((if_pos c_1).trans rfl) hP hD rfl dX4_classOf_6

def lX4_scan_0 (p_len : Int32) (p_bytes : Nat → Int32) : Nat → Int32 → Int32
  | 0, d_place1_0 => d_place1_0
  | n + 1, d_place1_0 => if p_len ≤ d_place1_0 then (d_place1_0) else (lt (sX7_byteAt d_place1_0 p_len p_bytes) (fun u_2 : Int32 => lt (sX4_classOf u_2) (fun u_3 : Int32 => if u_3 = 4 then (lX4_scan_0 p_len p_bytes n (d_place1_0 + 1)) else (d_place1_0))))

def lX4_scan_89 (p_len : Int32) (p_bytes : Nat → Int32) (u_7 : Int32) : Nat → Int32 → Int32 → Int32 → Int32 × Int32 × Int32
  | 0, x1_89, d_place1_89, d_value1_89 => (x1_89, d_place1_89, d_value1_89)
  | n + 1, x1_89, d_place1_89, d_value1_89 => if x1_89 = 0 then ((x1_89, d_place1_89, d_value1_89)) else (if p_len ≤ d_place1_89 then ((x1_89, d_place1_89, d_value1_89)) else (lt (sX7_byteAt d_place1_89 p_len p_bytes) (fun u_12 : Int32 => lt (((d_value1_89 * 10) + u_12) - 48) (fun x_13 : Int32 => lt (if u_7 = 1 then (lt (sX7_byteAt (d_place1_89 + 1) p_len p_bytes) (fun u_16 : Int32 => lt (sX4_classOf u_16) (fun u_17 : Int32 => if u_17 = u_7 then (1) else (0)))) else (if u_7 = 2 then (lt (sX7_byteAt (d_place1_89 + 1) p_len p_bytes) (fun u_20 : Int32 => lt (sX4_classOf u_20) (fun u_21 : Int32 => if u_21 = u_7 then (1) else (0)))) else (0))) (fun y_14 : Int32 => lX4_scan_89 p_len p_bytes u_7 n y_14 (d_place1_89 + 1) x_13)))))

def sX4_scan (p_len : Int32) (p_bytes : Nat → Int32) (d_place : Int32) : (Int32) × (Int32) × (Int32) × (Int32) := lt (lX4_scan_0 p_len p_bytes 401 d_place) (fun u_5 : Int32 => lt (sX7_byteAt u_5 p_len p_bytes) (fun u_6 : Int32 => lt (sX4_classOf u_6) (fun u_7 : Int32 => lt (if u_7 = 0 then (0) else (1)) (fun y_8 : Int32 => lt (lX4_scan_89 p_len p_bytes u_7 401 y_8 u_5 0) (fun u_23 : Int32 × Int32 × Int32 => if u_7 = 2 then (if (u_23.2.1 - u_5) ≤ 3 then ((u_23.2.1, u_7, u_23.2.2, u_5)) else ((u_23.2.1, 5, u_23.2.2, u_5))) else ((u_23.2.1, u_7, u_23.2.2, u_5)))))))
set_option maxHeartbeats 4000000 in
set_option maxRecDepth 100000 in
theorem mtX4_scan (l : Launch) (D : va_G) (cI cB cK cS : ClassId) (U Q : Nat → Nat) (R : va_W) (p_len : Int32) (p_bytes : Nat → Int32) (d_place : Int32) (d_token : Int32) (d_value : Int32) (d_start : Int32) (d_fault : Int32) (d_num : Nat → Int32) (hpl : pl_ok d_place) (hl1 : p_len.toInt ≤ 400) : MX l yX4_scan wsX4_scan (rmX 2) D (tyX cI cB cK cS) pF0 (tpW U cB p_len p_bytes ++ (rdW Q U cI d_place d_token d_value d_start d_fault d_num ++ R)) [.ref (Q 0)] (sX4_scan p_len p_bytes d_place) (fun _ => none) (fun u => tpW U cB p_len p_bytes ++ (rdW Q U cI u.1 u.2.1 u.2.2.1 u.2.2.2 d_fault d_num ++ R)) := by
  refine mx_intro (cc := cX4_scan) (maxL := 2) (ret := none) (by decide) rfl (Nat.le_of_ble_eq_true rfl) ?_
  intro p e s m below meth c A ls H locs Qm hQm hx hb hr hml hts hown hlocks hA hS hP hK hD hF hl
  have hown : s.vm.findClass RX4 = some m.cls := hown
  have hl : lv_has ls 2 [(0, .ref (Q 0))] := hl
  obtain ⟨hp0, hp1⟩ := id hpl
  have k15 := hts (.fieldLink RX4 15 "PigRounds$Reader" "place" "I") (by decide +kernel)
  have k31 := hts (.fieldLink RX4 31 "PigRounds$Reader" "tape" "LPigRounds$Tape;") (by decide +kernel)
  have k180 := hts (.fieldLink RX4 180 "PigRounds$Tape" "length" "I") (by decide +kernel)
  have k25 := hts (.fieldLink RX4 25 "PigRounds$Reader" "start" "I") (by decide +kernel)
  have k19 := hts (.fieldLink RX4 19 "PigRounds$Reader" "token" "I") (by decide +kernel)
  have k22 := hts (.fieldLink RX4 22 "PigRounds$Reader" "value" "I") (by decide +kernel)
  have iX4 : ∀ w ∈ u_ws RX4 TX4 7, w ∈ wsX4_scan := by decide +kernel
  have iX7 : ∀ w ∈ u_ws RX7 TX7 2, w ∈ wsX4_scan := by decide +kernel
  have L_0 : ∀ (n : Nat) (d_place1_0 : Int32) (H : Heap) (locs : List Loc) (ls : Array Slot), 0 ≤ d_place1_0.toInt → d_place1_0.toInt ≤ 400 → (400 : Int) < d_place1_0.toInt + ((n : Nat) : Int) → va_P D vwCl (tpW U cB p_len p_bytes ++ (rdW Q U cI d_place1_0 d_token d_value d_start d_fault d_num ++ R)) H → va_D A (tpW U cB p_len p_bytes ++ (rdW Q U cI d_place1_0 d_token d_value d_start d_fault d_num ++ R)) → va_S A s.heap H locs → lv_has ls 2 [(0, .ref (Q 0))] → (∀ (u : Int32) (H : Heap) (locs : List Loc) (ls : Array Slot), u = lX4_scan_0 p_len p_bytes n d_place1_0 → (0 ≤ u.toInt) → (u.toInt ≤ 400) → va_P D vwCl (tpW U cB p_len p_bytes ++ (rdW Q U cI u d_token d_value d_start d_fault d_num ++ R)) H → va_D A (tpW U cB p_len p_bytes ++ (rdW Q U cI u d_token d_value d_start d_fault d_num ++ R)) → va_S A s.heap H locs → lv_has ls 2 [(0, .ref (Q 0))] → W p l e (rmX 2) s m ([.ref (Q 0)] : List Value).toArray below meth c H locs 0 0 Qm (F0 m 45 ls [])) → W p l e (rmX 2) s m ([.ref (Q 0)] : List Value).toArray below meth c H locs 0 0 Qm (F0 m 0 ls []) := by
    intro n
    induction n with
    | zero =>
      intro d_place1_0 H locs ls iv_0_0 iv_0_1 iv_0_2 hP hD hS hl kont_0
      exfalso; omega
    | succ n ih_0 =>
      intro d_place1_0 H locs ls iv_0_0 iv_0_1 iv_0_2 hP hD hS hl kont_0
      refine lv_aload_n hx hb dX4_scan_0 rfl (lv_at hl 0 rfl) ?_
      refine va_get (D := D) (ci := 4) (v := .int d_place1_0) (C := RX4) (T := TX4) (N := 7) hx hb hts iX4 hown hK hP 2 rfl rfl 2 (by decide) k15 (fun _ h9 => h9) rfl dX4_scan_1 ?_
      refine lv_aload_n hx hb dX4_scan_4 rfl (lv_at hl 0 rfl) ?_
      refine va_get (D := D) (ci := 4) (v := .ref (U 0)) (C := RX4) (T := TX4) (N := 7) hx hb hts iX4 hown hK hP 2 rfl rfl 0 (by decide) k31 (fun _ h9 => h9) rfl dX4_scan_5 ?_
      refine va_get (D := D) (ci := 6) (v := .int p_len) (C := RX7) (T := TX7) (N := 2) hx hb hts iX7 hown hK hP 0 rfl rfl 1 (by decide) k180 (fun _ h9 => h9) rfl dX4_scan_8 ?_
      refine lv_icmp_ge (tgt := 45) hx hb dX4_scan_11 (by decide) (fun c_1 => ?_) (fun c_1 => ?_)
      · have d_1 := i_le rfl rfl c_1
        exact kont_0 d_place1_0 H locs ls (show lX4_scan_0 p_len p_bytes (n + 1) d_place1_0 = d_place1_0 from ((if_pos c_1).trans rfl)).symm (show 0 ≤ d_place1_0.toInt from by first | omega | assumption) (show d_place1_0.toInt ≤ 400 from by first | omega | assumption) hP hD hS (lv_sub hl [0] rfl)
      · have d_1 := i_len rfl rfl c_1
        refine lv_aload_n hx hb dX4_scan_14 rfl (lv_at hl 0 rfl) ?_
        refine va_get (D := D) (ci := 4) (v := .ref (U 0)) (C := RX4) (T := TX4) (N := 7) hx hb hts iX4 hown hK hP 2 rfl rfl 0 (by decide) k31 (fun _ h9 => h9) rfl dX4_scan_15 ?_
        refine lv_aload_n hx hb dX4_scan_18 rfl (lv_at hl 0 rfl) ?_
        refine va_get (D := D) (ci := 4) (v := .int d_place1_0) (C := RX4) (T := TX4) (N := 7) hx hb hts iX4 hown hK hP 2 rfl rfl 2 (by decide) k15 (fun _ h9 => h9) rfl dX4_scan_19 ?_
        refine mx_callV (As := [.int d_place1_0]) (rest := []) ⟨hx, hb, hml, hown, hts⟩ (mtX7_byteAt l D cI cB cK cS U (rdW Q U cI d_place1_0 d_token d_value d_start d_fault d_num ++ R) p_len p_bytes d_place1_0) (cwV 1 hts gX4_scan_X7_byteAt rfl rfl rfl (by decide +kernel) ⟨Nat.le_of_ble_eq_true rfl, Nat.le_of_ble_eq_true rfl⟩) pF0_ok trivial hK hP hD hS hA 0 rfl rfl rfl rfl hl.1 rfl (Nat.le_of_ble_eq_true rfl) dX4_scan_22 ⟨Nat.le_refl _, Nat.le_refl _⟩ (fun u_2 H locs eu_2 hP hD hS => ?_)
        refine W.eq (g2 := F0 m 25 ls [.int u_2]) rfl ?_
        have hP : va_P D vwCl (tpW U cB p_len p_bytes ++ (rdW Q U cI d_place1_0 d_token d_value d_start d_fault d_num ++ R)) H := hP
        have hD : va_D A (tpW U cB p_len p_bytes ++ (rdW Q U cI d_place1_0 d_token d_value d_start d_fault d_num ++ R)) := hD
        refine mx_callS (As := [.int u_2]) (rest := []) ⟨hx, hb, hml, hown, hts⟩ (mtX4_classOf l D cI cB cK cS (tpW U cB p_len p_bytes ++ (rdW Q U cI d_place1_0 d_token d_value d_start d_fault d_num ++ R)) u_2) (va_cwS 1 hts gX4_scan_X4_classOf rfl rfl rfl (by decide +kernel) ⟨Nat.le_of_ble_eq_true rfl, Nat.le_of_ble_eq_true rfl⟩) pF0_ok trivial hK hP hD hS hA rfl hl.1 rfl (Nat.le_of_ble_eq_true rfl) dX4_scan_25 ⟨Nat.le_refl _, Nat.le_refl _⟩ (fun u_3 H locs eu_3 hP hD hS => ?_)
        refine W.eq (g2 := F0 m 28 ls [.int u_3]) rfl ?_
        have hP : va_P D vwCl (tpW U cB p_len p_bytes ++ (rdW Q U cI d_place1_0 d_token d_value d_start d_fault d_num ++ R)) H := hP
        have hD : va_D A (tpW U cB p_len p_bytes ++ (rdW Q U cI d_place1_0 d_token d_value d_start d_fault d_num ++ R)) := hD
        refine lv_iconst (v := 4) hx hb dX4_scan_28 (by decide) ?_
        refine lv_icmp_ne (tgt := 45) hx hb dX4_scan_29 (by decide) (fun c_4 => ?_) (fun c_4 => ?_)
        · have d_4 := i_eqn rfl (show (4 : Int32).toInt = 4 from by decide) c_4
          exact kont_0 d_place1_0 H locs ls (show lX4_scan_0 p_len p_bytes (n + 1) d_place1_0 = d_place1_0 from ((if_neg c_1).trans (lt_eq eu_2 (lt_eq eu_3 ((if_neg c_4).trans rfl))))).symm (show 0 ≤ d_place1_0.toInt from by first | omega | assumption) (show d_place1_0.toInt ≤ 400 from by first | omega | assumption) hP hD hS (lv_sub hl [0] rfl)
        · have d_4 := i_eq rfl (show (4 : Int32).toInt = 4 from by decide) c_4
          refine lv_aload_n hx hb dX4_scan_32 rfl (lv_at hl 0 rfl) ?_
          refine lv_dup hx hb dX4_scan_33 rfl ?_
          refine va_get (D := D) (ci := 4) (v := .int d_place1_0) (C := RX4) (T := TX4) (N := 7) hx hb hts iX4 hown hK hP 2 rfl rfl 2 (by decide) k15 (fun _ h9 => h9) rfl dX4_scan_34 ?_
          refine lv_iconst (v := 1) hx hb dX4_scan_37 (by decide) ?_
          refine lv_iadd hx hb dX4_scan_38 ?_
          refine va_put (D := D) (ci := 4) (v := .int (d_place1_0 + 1)) (ty := .int) (C := RX4) (T := TX4) (N := 7) hx hb hts iX4 tyX4 tyX4_ok nmX4 hown hK hP hD hS 2 rfl rfl 2 (by decide) k15 (fun _ h9 => h9) rfl (by decide +kernel) rfl rfl (Nat.le_of_ble_eq_true rfl) dX4_scan_39 (fun H locs hP hD hS => ?_)
          have hP : va_P D vwCl (tpW U cB p_len p_bytes ++ (rdW Q U cI (d_place1_0 + 1) d_token d_value d_start d_fault d_num ++ R)) H := hP
          have hD : va_D A (tpW U cB p_len p_bytes ++ (rdW Q U cI (d_place1_0 + 1) d_token d_value d_start d_fault d_num ++ R)) := hD
          refine lv_goto (tgt := 0) hx hb dX4_scan_42 (by decide) ?_
          have tf_p : (d_place1_0 + 1).toInt = d_place1_0.toInt + 1 := i_addv rfl (show (1 : Int32).toInt = 1 from by decide) (by omega) (by omega)
          refine ih_0 (d_place1_0 + 1) H locs ls (by first | omega | assumption) (by first | omega | assumption) (by first | omega | assumption) hP hD hS (lv_sub hl [0] rfl) (fun u H locs ls eu pv_0_0 pv_0_1 hP hD hS hl => ?_)
          exact kont_0 u H locs ls (eu.trans (show lX4_scan_0 p_len p_bytes (n + 1) d_place1_0 = lX4_scan_0 p_len p_bytes n (d_place1_0 + 1) from ((if_neg c_1).trans (lt_eq eu_2 (lt_eq eu_3 ((if_pos c_4).trans rfl))))).symm) pv_0_0 pv_0_1 hP hD hS hl
  refine L_0 401 d_place H locs ls (by omega) (by omega) (by omega) hP hD hS (lv_sub hl [0] rfl) (fun u_5 H locs ls eu_5 pv_0_0 pv_0_1 hP hD hS hl => ?_)
  have hP : va_P D vwCl (tpW U cB p_len p_bytes ++ (rdW Q U cI u_5 d_token d_value d_start d_fault d_num ++ R)) H := hP
  have hD : va_D A (tpW U cB p_len p_bytes ++ (rdW Q U cI u_5 d_token d_value d_start d_fault d_num ++ R)) := hD
  refine lv_aload_n hx hb dX4_scan_45 rfl (lv_at hl 0 rfl) ?_
  refine lv_aload_n hx hb dX4_scan_46 rfl (lv_at hl 0 rfl) ?_
  refine va_get (D := D) (ci := 4) (v := .int u_5) (C := RX4) (T := TX4) (N := 7) hx hb hts iX4 hown hK hP 2 rfl rfl 2 (by decide) k15 (fun _ h9 => h9) rfl dX4_scan_47 ?_
  refine va_put (D := D) (ci := 4) (v := .int u_5) (ty := .int) (C := RX4) (T := TX4) (N := 7) hx hb hts iX4 tyX4 tyX4_ok nmX4 hown hK hP hD hS 2 rfl rfl 5 (by decide) k25 (fun _ h9 => h9) rfl (by decide +kernel) rfl rfl (Nat.le_of_ble_eq_true rfl) dX4_scan_50 (fun H locs hP hD hS => ?_)
  have hP : va_P D vwCl (tpW U cB p_len p_bytes ++ (rdW Q U cI u_5 d_token d_value u_5 d_fault d_num ++ R)) H := hP
  have hD : va_D A (tpW U cB p_len p_bytes ++ (rdW Q U cI u_5 d_token d_value u_5 d_fault d_num ++ R)) := hD
  refine lv_aload_n hx hb dX4_scan_53 rfl (lv_at hl 0 rfl) ?_
  refine lv_aload_n hx hb dX4_scan_54 rfl (lv_at hl 0 rfl) ?_
  refine va_get (D := D) (ci := 4) (v := .ref (U 0)) (C := RX4) (T := TX4) (N := 7) hx hb hts iX4 hown hK hP 2 rfl rfl 0 (by decide) k31 (fun _ h9 => h9) rfl dX4_scan_55 ?_
  refine lv_aload_n hx hb dX4_scan_58 rfl (lv_at hl 0 rfl) ?_
  refine va_get (D := D) (ci := 4) (v := .int u_5) (C := RX4) (T := TX4) (N := 7) hx hb hts iX4 hown hK hP 2 rfl rfl 5 (by decide) k25 (fun _ h9 => h9) rfl dX4_scan_59 ?_
  refine mx_callV (As := [.int u_5]) (rest := [.ref (Q 0)]) ⟨hx, hb, hml, hown, hts⟩ (mtX7_byteAt l D cI cB cK cS U (rdW Q U cI u_5 d_token d_value u_5 d_fault d_num ++ R) p_len p_bytes u_5) (cwV 1 hts gX4_scan_X7_byteAt rfl rfl rfl (by decide +kernel) ⟨Nat.le_of_ble_eq_true rfl, Nat.le_of_ble_eq_true rfl⟩) pF0_ok trivial hK hP hD hS hA 0 rfl rfl rfl rfl hl.1 rfl (Nat.le_of_ble_eq_true rfl) dX4_scan_62 ⟨Nat.le_refl _, Nat.le_refl _⟩ (fun u_6 H locs eu_6 hP hD hS => ?_)
  refine W.eq (g2 := F0 m 65 ls [.int u_6, .ref (Q 0)]) rfl ?_
  have hP : va_P D vwCl (tpW U cB p_len p_bytes ++ (rdW Q U cI u_5 d_token d_value u_5 d_fault d_num ++ R)) H := hP
  have hD : va_D A (tpW U cB p_len p_bytes ++ (rdW Q U cI u_5 d_token d_value u_5 d_fault d_num ++ R)) := hD
  refine mx_callS (As := [.int u_6]) (rest := [.ref (Q 0)]) ⟨hx, hb, hml, hown, hts⟩ (mtX4_classOf l D cI cB cK cS (tpW U cB p_len p_bytes ++ (rdW Q U cI u_5 d_token d_value u_5 d_fault d_num ++ R)) u_6) (va_cwS 1 hts gX4_scan_X4_classOf rfl rfl rfl (by decide +kernel) ⟨Nat.le_of_ble_eq_true rfl, Nat.le_of_ble_eq_true rfl⟩) pF0_ok trivial hK hP hD hS hA rfl hl.1 rfl (Nat.le_of_ble_eq_true rfl) dX4_scan_65 ⟨Nat.le_refl _, Nat.le_refl _⟩ (fun u_7 H locs eu_7 hP hD hS => ?_)
  refine W.eq (g2 := F0 m 68 ls [.int u_7, .ref (Q 0)]) rfl ?_
  have hP : va_P D vwCl (tpW U cB p_len p_bytes ++ (rdW Q U cI u_5 d_token d_value u_5 d_fault d_num ++ R)) H := hP
  have hD : va_D A (tpW U cB p_len p_bytes ++ (rdW Q U cI u_5 d_token d_value u_5 d_fault d_num ++ R)) := hD
  refine va_put (D := D) (ci := 4) (v := .int u_7) (ty := .int) (C := RX4) (T := TX4) (N := 7) hx hb hts iX4 tyX4 tyX4_ok nmX4 hown hK hP hD hS 2 rfl rfl 3 (by decide) k19 (fun _ h9 => h9) rfl (by decide +kernel) rfl rfl (Nat.le_of_ble_eq_true rfl) dX4_scan_68 (fun H locs hP hD hS => ?_)
  have hP : va_P D vwCl (tpW U cB p_len p_bytes ++ (rdW Q U cI u_5 u_7 d_value u_5 d_fault d_num ++ R)) H := hP
  have hD : va_D A (tpW U cB p_len p_bytes ++ (rdW Q U cI u_5 u_7 d_value u_5 d_fault d_num ++ R)) := hD
  refine lv_aload_n hx hb dX4_scan_71 rfl (lv_at hl 0 rfl) ?_
  refine lv_iconst (v := 0) hx hb dX4_scan_72 (by decide) ?_
  refine va_put (D := D) (ci := 4) (v := .int 0) (ty := .int) (C := RX4) (T := TX4) (N := 7) hx hb hts iX4 tyX4 tyX4_ok nmX4 hown hK hP hD hS 2 rfl rfl 4 (by decide) k22 (fun _ h9 => h9) rfl (by decide +kernel) rfl rfl (Nat.le_of_ble_eq_true rfl) dX4_scan_73 (fun H locs hP hD hS => ?_)
  have hP : va_P D vwCl (tpW U cB p_len p_bytes ++ (rdW Q U cI u_5 u_7 0 u_5 d_fault d_num ++ R)) H := hP
  have hD : va_D A (tpW U cB p_len p_bytes ++ (rdW Q U cI u_5 u_7 0 u_5 d_fault d_num ++ R)) := hD
  refine lv_aload_n hx hb dX4_scan_76 rfl (lv_at hl 0 rfl) ?_
  refine va_get (D := D) (ci := 4) (v := .int u_7) (C := RX4) (T := TX4) (N := 7) hx hb hts iX4 hown hK hP 2 rfl rfl 3 (by decide) k19 (fun _ h9 => h9) rfl dX4_scan_77 ?_
  have J_8 : ∀ (y_8 : Int32) (H : Heap) (locs : List Loc) (ls : Array Slot), y_8 = (if u_7 = 0 then (0) else (1)) → va_P D vwCl (tpW U cB p_len p_bytes ++ (rdW Q U cI u_5 u_7 0 u_5 d_fault d_num ++ R)) H → va_D A (tpW U cB p_len p_bytes ++ (rdW Q U cI u_5 u_7 0 u_5 d_fault d_num ++ R)) → va_S A s.heap H locs → lv_has ls 2 [(0, .ref (Q 0))] → W p l e (rmX 2) s m ([.ref (Q 0)] : List Value).toArray below meth c H locs 0 0 Qm (F0 m 88 ls [.int y_8]) := by
    intro y_8 H locs ls ey_8 hP hD hS hl
    refine lv_istore_n (lv' := [(1, .int y_8), (0, .ref (Q 0))]) hx hb dX4_scan_88 rfl hl (by decide) rfl (fun ls hl => ?_)
    have L_89 : ∀ (n : Nat) (x1_89 : Int32) (d_place1_89 : Int32) (d_value1_89 : Int32) (H : Heap) (locs : List Loc) (ls : Array Slot), 0 ≤ d_place1_89.toInt → d_place1_89.toInt ≤ 400 → (400 : Int) < d_place1_89.toInt + ((n : Nat) : Int) → va_P D vwCl (tpW U cB p_len p_bytes ++ (rdW Q U cI d_place1_89 u_7 d_value1_89 u_5 d_fault d_num ++ R)) H → va_D A (tpW U cB p_len p_bytes ++ (rdW Q U cI d_place1_89 u_7 d_value1_89 u_5 d_fault d_num ++ R)) → va_S A s.heap H locs → lv_has ls 2 [(1, .int x1_89), (0, .ref (Q 0))] → (∀ (u : Int32 × Int32 × Int32) (H : Heap) (locs : List Loc) (ls : Array Slot), u = lX4_scan_89 p_len p_bytes u_7 n x1_89 d_place1_89 d_value1_89 → (0 ≤ u.2.1.toInt) → (u.2.1.toInt ≤ 400) → va_P D vwCl (tpW U cB p_len p_bytes ++ (rdW Q U cI u.2.1 u_7 u.2.2 u_5 d_fault d_num ++ R)) H → va_D A (tpW U cB p_len p_bytes ++ (rdW Q U cI u.2.1 u_7 u.2.2 u_5 d_fault d_num ++ R)) → va_S A s.heap H locs → lv_has ls 2 [(0, .ref (Q 0))] → W p l e (rmX 2) s m ([.ref (Q 0)] : List Value).toArray below meth c H locs 0 0 Qm (F0 m 189 ls [])) → W p l e (rmX 2) s m ([.ref (Q 0)] : List Value).toArray below meth c H locs 0 0 Qm (F0 m 89 ls []) := by
      intro n
      induction n with
      | zero =>
        intro x1_89 d_place1_89 d_value1_89 H locs ls iv_89_0 iv_89_1 iv_89_2 hP hD hS hl kont_89
        exfalso; omega
      | succ n ih_89 =>
        intro x1_89 d_place1_89 d_value1_89 H locs ls iv_89_0 iv_89_1 iv_89_2 hP hD hS hl kont_89
        refine lv_iload_n hx hb dX4_scan_89 rfl (lv_at hl 0 rfl) ?_
        refine lv_if_eq (tgt := 189) hx hb dX4_scan_90 (by decide) (fun c_10 => ?_) (fun c_10 => ?_)
        · have d_10 := i_eq rfl (show (0 : Int32).toInt = 0 from by decide) c_10
          exact kont_89 (x1_89, d_place1_89, d_value1_89) H locs ls (show lX4_scan_89 p_len p_bytes u_7 (n + 1) x1_89 d_place1_89 d_value1_89 = (x1_89, d_place1_89, d_value1_89) from ((if_pos c_10).trans rfl)).symm (show 0 ≤ d_place1_89.toInt from by first | omega | assumption) (show d_place1_89.toInt ≤ 400 from by first | omega | assumption) hP hD hS (lv_sub hl [1] rfl)
        · have d_10 := i_eqn rfl (show (0 : Int32).toInt = 0 from by decide) c_10
          refine lv_aload_n hx hb dX4_scan_93 rfl (lv_at hl 1 rfl) ?_
          refine va_get (D := D) (ci := 4) (v := .int d_place1_89) (C := RX4) (T := TX4) (N := 7) hx hb hts iX4 hown hK hP 2 rfl rfl 2 (by decide) k15 (fun _ h9 => h9) rfl dX4_scan_94 ?_
          refine lv_aload_n hx hb dX4_scan_97 rfl (lv_at hl 1 rfl) ?_
          refine va_get (D := D) (ci := 4) (v := .ref (U 0)) (C := RX4) (T := TX4) (N := 7) hx hb hts iX4 hown hK hP 2 rfl rfl 0 (by decide) k31 (fun _ h9 => h9) rfl dX4_scan_98 ?_
          refine va_get (D := D) (ci := 6) (v := .int p_len) (C := RX7) (T := TX7) (N := 2) hx hb hts iX7 hown hK hP 0 rfl rfl 1 (by decide) k180 (fun _ h9 => h9) rfl dX4_scan_101 ?_
          refine lv_icmp_ge (tgt := 189) hx hb dX4_scan_104 (by decide) (fun c_11 => ?_) (fun c_11 => ?_)
          · have d_11 := i_le rfl rfl c_11
            exact kont_89 (x1_89, d_place1_89, d_value1_89) H locs ls (show lX4_scan_89 p_len p_bytes u_7 (n + 1) x1_89 d_place1_89 d_value1_89 = (x1_89, d_place1_89, d_value1_89) from ((if_neg c_10).trans ((if_pos c_11).trans rfl))).symm (show 0 ≤ d_place1_89.toInt from by first | omega | assumption) (show d_place1_89.toInt ≤ 400 from by first | omega | assumption) hP hD hS (lv_sub hl [1] rfl)
          · have d_11 := i_len rfl rfl c_11
            refine lv_aload_n hx hb dX4_scan_107 rfl (lv_at hl 1 rfl) ?_
            refine lv_aload_n hx hb dX4_scan_108 rfl (lv_at hl 1 rfl) ?_
            refine va_get (D := D) (ci := 4) (v := .int d_value1_89) (C := RX4) (T := TX4) (N := 7) hx hb hts iX4 hown hK hP 2 rfl rfl 4 (by decide) k22 (fun _ h9 => h9) rfl dX4_scan_109 ?_
            refine lv_bipush (v := 10) hx hb dX4_scan_112 (by decide) ?_
            refine lv_imul hx hb dX4_scan_114 ?_
            refine lv_aload_n hx hb dX4_scan_115 rfl (lv_at hl 1 rfl) ?_
            refine va_get (D := D) (ci := 4) (v := .ref (U 0)) (C := RX4) (T := TX4) (N := 7) hx hb hts iX4 hown hK hP 2 rfl rfl 0 (by decide) k31 (fun _ h9 => h9) rfl dX4_scan_116 ?_
            refine lv_aload_n hx hb dX4_scan_119 rfl (lv_at hl 1 rfl) ?_
            refine va_get (D := D) (ci := 4) (v := .int d_place1_89) (C := RX4) (T := TX4) (N := 7) hx hb hts iX4 hown hK hP 2 rfl rfl 2 (by decide) k15 (fun _ h9 => h9) rfl dX4_scan_120 ?_
            refine mx_callV (As := [.int d_place1_89]) (rest := [.int (d_value1_89 * 10), .ref (Q 0)]) ⟨hx, hb, hml, hown, hts⟩ (mtX7_byteAt l D cI cB cK cS U (rdW Q U cI d_place1_89 u_7 d_value1_89 u_5 d_fault d_num ++ R) p_len p_bytes d_place1_89) (cwV 1 hts gX4_scan_X7_byteAt rfl rfl rfl (by decide +kernel) ⟨Nat.le_of_ble_eq_true rfl, Nat.le_of_ble_eq_true rfl⟩) pF0_ok trivial hK hP hD hS hA 0 rfl rfl rfl rfl hl.1 rfl (Nat.le_of_ble_eq_true rfl) dX4_scan_123 ⟨Nat.le_refl _, Nat.le_refl _⟩ (fun u_12 H locs eu_12 hP hD hS => ?_)
            refine W.eq (g2 := F0 m 126 ls [.int u_12, .int (d_value1_89 * 10), .ref (Q 0)]) rfl ?_
            have hP : va_P D vwCl (tpW U cB p_len p_bytes ++ (rdW Q U cI d_place1_89 u_7 d_value1_89 u_5 d_fault d_num ++ R)) H := hP
            have hD : va_D A (tpW U cB p_len p_bytes ++ (rdW Q U cI d_place1_89 u_7 d_value1_89 u_5 d_fault d_num ++ R)) := hD
            refine lv_iadd hx hb dX4_scan_126 ?_
            refine lv_bipush (v := 48) hx hb dX4_scan_127 (by decide) ?_
            refine lv_isub hx hb dX4_scan_129 ?_
            refine lv_topi (fun x_13 ex_13 => ?_)
            refine va_put (D := D) (ci := 4) (v := .int x_13) (ty := .int) (C := RX4) (T := TX4) (N := 7) hx hb hts iX4 tyX4 tyX4_ok nmX4 hown hK hP hD hS 2 rfl rfl 4 (by decide) k22 (fun _ h9 => h9) rfl (by decide +kernel) rfl rfl (Nat.le_of_ble_eq_true rfl) dX4_scan_130 (fun H locs hP hD hS => ?_)
            have hP : va_P D vwCl (tpW U cB p_len p_bytes ++ (rdW Q U cI d_place1_89 u_7 x_13 u_5 d_fault d_num ++ R)) H := hP
            have hD : va_D A (tpW U cB p_len p_bytes ++ (rdW Q U cI d_place1_89 u_7 x_13 u_5 d_fault d_num ++ R)) := hD
            refine lv_aload_n hx hb dX4_scan_133 rfl (lv_at hl 1 rfl) ?_
            refine lv_dup hx hb dX4_scan_134 rfl ?_
            refine va_get (D := D) (ci := 4) (v := .int d_place1_89) (C := RX4) (T := TX4) (N := 7) hx hb hts iX4 hown hK hP 2 rfl rfl 2 (by decide) k15 (fun _ h9 => h9) rfl dX4_scan_135 ?_
            refine lv_iconst (v := 1) hx hb dX4_scan_138 (by decide) ?_
            refine lv_iadd hx hb dX4_scan_139 ?_
            refine va_put (D := D) (ci := 4) (v := .int (d_place1_89 + 1)) (ty := .int) (C := RX4) (T := TX4) (N := 7) hx hb hts iX4 tyX4 tyX4_ok nmX4 hown hK hP hD hS 2 rfl rfl 2 (by decide) k15 (fun _ h9 => h9) rfl (by decide +kernel) rfl rfl (Nat.le_of_ble_eq_true rfl) dX4_scan_140 (fun H locs hP hD hS => ?_)
            have hP : va_P D vwCl (tpW U cB p_len p_bytes ++ (rdW Q U cI (d_place1_89 + 1) u_7 x_13 u_5 d_fault d_num ++ R)) H := hP
            have hD : va_D A (tpW U cB p_len p_bytes ++ (rdW Q U cI (d_place1_89 + 1) u_7 x_13 u_5 d_fault d_num ++ R)) := hD
            refine lv_aload_n hx hb dX4_scan_143 rfl (lv_at hl 1 rfl) ?_
            refine va_get (D := D) (ci := 4) (v := .int u_7) (C := RX4) (T := TX4) (N := 7) hx hb hts iX4 hown hK hP 2 rfl rfl 3 (by decide) k19 (fun _ h9 => h9) rfl dX4_scan_144 ?_
            refine lv_iconst (v := 1) hx hb dX4_scan_147 (by decide) ?_
            have J_14 : ∀ (y_14 : Int32) (H : Heap) (locs : List Loc) (ls : Array Slot), y_14 = (if u_7 = 1 then (lt (sX7_byteAt (d_place1_89 + 1) p_len p_bytes) (fun u_16 : Int32 => lt (sX4_classOf u_16) (fun u_17 : Int32 => if u_17 = u_7 then (1) else (0)))) else (if u_7 = 2 then (lt (sX7_byteAt (d_place1_89 + 1) p_len p_bytes) (fun u_20 : Int32 => lt (sX4_classOf u_20) (fun u_21 : Int32 => if u_21 = u_7 then (1) else (0)))) else (0))) → va_P D vwCl (tpW U cB p_len p_bytes ++ (rdW Q U cI (d_place1_89 + 1) u_7 x_13 u_5 d_fault d_num ++ R)) H → va_D A (tpW U cB p_len p_bytes ++ (rdW Q U cI (d_place1_89 + 1) u_7 x_13 u_5 d_fault d_num ++ R)) → va_S A s.heap H locs → lv_has ls 2 [(0, .ref (Q 0))] → W p l e (rmX 2) s m ([.ref (Q 0)] : List Value).toArray below meth c H locs 0 0 Qm (F0 m 185 ls [.int y_14]) := by
              intro y_14 H locs ls ey_14 hP hD hS hl
              refine lv_istore_n (lv' := [(1, .int y_14), (0, .ref (Q 0))]) hx hb dX4_scan_185 rfl hl (by decide) rfl (fun ls hl => ?_)
              refine lv_goto (tgt := 89) hx hb dX4_scan_186 (by decide) ?_
              have tf_p : (d_place1_89 + 1).toInt = d_place1_89.toInt + 1 := i_addv rfl (show (1 : Int32).toInt = 1 from by decide) (by omega) (by omega)
              refine ih_89 y_14 (d_place1_89 + 1) x_13 H locs ls (by first | omega | assumption) (by first | omega | assumption) (by first | omega | assumption) hP hD hS (lv_sub hl [0, 1] rfl) (fun u H locs ls eu pv_89_0 pv_89_1 hP hD hS hl => ?_)
              exact kont_89 u H locs ls (eu.trans (show lX4_scan_89 p_len p_bytes u_7 (n + 1) x1_89 d_place1_89 d_value1_89 = lX4_scan_89 p_len p_bytes u_7 n y_14 (d_place1_89 + 1) x_13 from ((if_neg c_10).trans ((if_neg c_11).trans (lt_eq eu_12 (lt_eq ex_13 (lt_eq ey_14 rfl)))))).symm) pv_89_0 pv_89_1 hP hD hS hl
            refine lv_icmp_eq (tgt := 159) hx hb dX4_scan_148 (by decide) (fun c_15 => ?_) (fun c_15 => ?_)
            · have d_15 := i_eq rfl (show (1 : Int32).toInt = 1 from by decide) c_15
              refine lv_aload_n hx hb dX4_scan_159 rfl (lv_at hl 1 rfl) ?_
              refine va_get (D := D) (ci := 4) (v := .ref (U 0)) (C := RX4) (T := TX4) (N := 7) hx hb hts iX4 hown hK hP 2 rfl rfl 0 (by decide) k31 (fun _ h9 => h9) rfl dX4_scan_160 ?_
              refine lv_aload_n hx hb dX4_scan_163 rfl (lv_at hl 1 rfl) ?_
              refine va_get (D := D) (ci := 4) (v := .int (d_place1_89 + 1)) (C := RX4) (T := TX4) (N := 7) hx hb hts iX4 hown hK hP 2 rfl rfl 2 (by decide) k15 (fun _ h9 => h9) rfl dX4_scan_164 ?_
              refine mx_callV (As := [.int (d_place1_89 + 1)]) (rest := []) ⟨hx, hb, hml, hown, hts⟩ (mtX7_byteAt l D cI cB cK cS U (rdW Q U cI (d_place1_89 + 1) u_7 x_13 u_5 d_fault d_num ++ R) p_len p_bytes (d_place1_89 + 1)) (cwV 1 hts gX4_scan_X7_byteAt rfl rfl rfl (by decide +kernel) ⟨Nat.le_of_ble_eq_true rfl, Nat.le_of_ble_eq_true rfl⟩) pF0_ok trivial hK hP hD hS hA 0 rfl rfl rfl rfl hl.1 rfl (Nat.le_of_ble_eq_true rfl) dX4_scan_167 ⟨Nat.le_refl _, Nat.le_refl _⟩ (fun u_16 H locs eu_16 hP hD hS => ?_)
              refine W.eq (g2 := F0 m 170 ls [.int u_16]) rfl ?_
              have hP : va_P D vwCl (tpW U cB p_len p_bytes ++ (rdW Q U cI (d_place1_89 + 1) u_7 x_13 u_5 d_fault d_num ++ R)) H := hP
              have hD : va_D A (tpW U cB p_len p_bytes ++ (rdW Q U cI (d_place1_89 + 1) u_7 x_13 u_5 d_fault d_num ++ R)) := hD
              refine mx_callS (As := [.int u_16]) (rest := []) ⟨hx, hb, hml, hown, hts⟩ (mtX4_classOf l D cI cB cK cS (tpW U cB p_len p_bytes ++ (rdW Q U cI (d_place1_89 + 1) u_7 x_13 u_5 d_fault d_num ++ R)) u_16) (va_cwS 1 hts gX4_scan_X4_classOf rfl rfl rfl (by decide +kernel) ⟨Nat.le_of_ble_eq_true rfl, Nat.le_of_ble_eq_true rfl⟩) pF0_ok trivial hK hP hD hS hA rfl hl.1 rfl (Nat.le_of_ble_eq_true rfl) dX4_scan_170 ⟨Nat.le_refl _, Nat.le_refl _⟩ (fun u_17 H locs eu_17 hP hD hS => ?_)
              refine W.eq (g2 := F0 m 173 ls [.int u_17]) rfl ?_
              have hP : va_P D vwCl (tpW U cB p_len p_bytes ++ (rdW Q U cI (d_place1_89 + 1) u_7 x_13 u_5 d_fault d_num ++ R)) H := hP
              have hD : va_D A (tpW U cB p_len p_bytes ++ (rdW Q U cI (d_place1_89 + 1) u_7 x_13 u_5 d_fault d_num ++ R)) := hD
              refine lv_aload_n hx hb dX4_scan_173 rfl (lv_at hl 1 rfl) ?_
              refine va_get (D := D) (ci := 4) (v := .int u_7) (C := RX4) (T := TX4) (N := 7) hx hb hts iX4 hown hK hP 2 rfl rfl 3 (by decide) k19 (fun _ h9 => h9) rfl dX4_scan_174 ?_
              refine lv_icmp_ne (tgt := 184) hx hb dX4_scan_177 (by decide) (fun c_18 => ?_) (fun c_18 => ?_)
              · have d_18 := i_eqn rfl rfl c_18
                refine lv_iconst (v := 0) hx hb dX4_scan_184 (by decide) ?_
                exact J_14 0 H locs ls (Eq.symm ((if_pos c_15).trans (lt_eq eu_16 (lt_eq eu_17 ((if_neg c_18).trans rfl))))) hP hD hS (lv_sub hl [1] rfl)
              · have d_18 := i_eq rfl rfl c_18
                refine lv_iconst (v := 1) hx hb dX4_scan_180 (by decide) ?_
                refine lv_goto (tgt := 185) hx hb dX4_scan_181 (by decide) ?_
                exact J_14 1 H locs ls (Eq.symm ((if_pos c_15).trans (lt_eq eu_16 (lt_eq eu_17 ((if_pos c_18).trans rfl))))) hP hD hS (lv_sub hl [1] rfl)
            · have d_15 := i_eqn rfl (show (1 : Int32).toInt = 1 from by decide) c_15
              refine lv_aload_n hx hb dX4_scan_151 rfl (lv_at hl 1 rfl) ?_
              refine va_get (D := D) (ci := 4) (v := .int u_7) (C := RX4) (T := TX4) (N := 7) hx hb hts iX4 hown hK hP 2 rfl rfl 3 (by decide) k19 (fun _ h9 => h9) rfl dX4_scan_152 ?_
              refine lv_iconst (v := 2) hx hb dX4_scan_155 (by decide) ?_
              refine lv_icmp_ne (tgt := 184) hx hb dX4_scan_156 (by decide) (fun c_19 => ?_) (fun c_19 => ?_)
              · have d_19 := i_eqn rfl (show (2 : Int32).toInt = 2 from by decide) c_19
                refine lv_iconst (v := 0) hx hb dX4_scan_184 (by decide) ?_
                exact J_14 0 H locs ls (Eq.symm ((if_neg c_15).trans ((if_neg c_19).trans rfl))) hP hD hS (lv_sub hl [1] rfl)
              · have d_19 := i_eq rfl (show (2 : Int32).toInt = 2 from by decide) c_19
                refine lv_aload_n hx hb dX4_scan_159 rfl (lv_at hl 1 rfl) ?_
                refine va_get (D := D) (ci := 4) (v := .ref (U 0)) (C := RX4) (T := TX4) (N := 7) hx hb hts iX4 hown hK hP 2 rfl rfl 0 (by decide) k31 (fun _ h9 => h9) rfl dX4_scan_160 ?_
                refine lv_aload_n hx hb dX4_scan_163 rfl (lv_at hl 1 rfl) ?_
                refine va_get (D := D) (ci := 4) (v := .int (d_place1_89 + 1)) (C := RX4) (T := TX4) (N := 7) hx hb hts iX4 hown hK hP 2 rfl rfl 2 (by decide) k15 (fun _ h9 => h9) rfl dX4_scan_164 ?_
                refine mx_callV (As := [.int (d_place1_89 + 1)]) (rest := []) ⟨hx, hb, hml, hown, hts⟩ (mtX7_byteAt l D cI cB cK cS U (rdW Q U cI (d_place1_89 + 1) u_7 x_13 u_5 d_fault d_num ++ R) p_len p_bytes (d_place1_89 + 1)) (cwV 1 hts gX4_scan_X7_byteAt rfl rfl rfl (by decide +kernel) ⟨Nat.le_of_ble_eq_true rfl, Nat.le_of_ble_eq_true rfl⟩) pF0_ok trivial hK hP hD hS hA 0 rfl rfl rfl rfl hl.1 rfl (Nat.le_of_ble_eq_true rfl) dX4_scan_167 ⟨Nat.le_refl _, Nat.le_refl _⟩ (fun u_20 H locs eu_20 hP hD hS => ?_)
                refine W.eq (g2 := F0 m 170 ls [.int u_20]) rfl ?_
                have hP : va_P D vwCl (tpW U cB p_len p_bytes ++ (rdW Q U cI (d_place1_89 + 1) u_7 x_13 u_5 d_fault d_num ++ R)) H := hP
                have hD : va_D A (tpW U cB p_len p_bytes ++ (rdW Q U cI (d_place1_89 + 1) u_7 x_13 u_5 d_fault d_num ++ R)) := hD
                refine mx_callS (As := [.int u_20]) (rest := []) ⟨hx, hb, hml, hown, hts⟩ (mtX4_classOf l D cI cB cK cS (tpW U cB p_len p_bytes ++ (rdW Q U cI (d_place1_89 + 1) u_7 x_13 u_5 d_fault d_num ++ R)) u_20) (va_cwS 1 hts gX4_scan_X4_classOf rfl rfl rfl (by decide +kernel) ⟨Nat.le_of_ble_eq_true rfl, Nat.le_of_ble_eq_true rfl⟩) pF0_ok trivial hK hP hD hS hA rfl hl.1 rfl (Nat.le_of_ble_eq_true rfl) dX4_scan_170 ⟨Nat.le_refl _, Nat.le_refl _⟩ (fun u_21 H locs eu_21 hP hD hS => ?_)
                refine W.eq (g2 := F0 m 173 ls [.int u_21]) rfl ?_
                have hP : va_P D vwCl (tpW U cB p_len p_bytes ++ (rdW Q U cI (d_place1_89 + 1) u_7 x_13 u_5 d_fault d_num ++ R)) H := hP
                have hD : va_D A (tpW U cB p_len p_bytes ++ (rdW Q U cI (d_place1_89 + 1) u_7 x_13 u_5 d_fault d_num ++ R)) := hD
                refine lv_aload_n hx hb dX4_scan_173 rfl (lv_at hl 1 rfl) ?_
                refine va_get (D := D) (ci := 4) (v := .int u_7) (C := RX4) (T := TX4) (N := 7) hx hb hts iX4 hown hK hP 2 rfl rfl 3 (by decide) k19 (fun _ h9 => h9) rfl dX4_scan_174 ?_
                refine lv_icmp_ne (tgt := 184) hx hb dX4_scan_177 (by decide) (fun c_22 => ?_) (fun c_22 => ?_)
                · have d_22 := i_eqn rfl rfl c_22
                  refine lv_iconst (v := 0) hx hb dX4_scan_184 (by decide) ?_
                  exact J_14 0 H locs ls (Eq.symm ((if_neg c_15).trans ((if_pos c_19).trans (lt_eq eu_20 (lt_eq eu_21 ((if_neg c_22).trans rfl)))))) hP hD hS (lv_sub hl [1] rfl)
                · have d_22 := i_eq rfl rfl c_22
                  refine lv_iconst (v := 1) hx hb dX4_scan_180 (by decide) ?_
                  refine lv_goto (tgt := 185) hx hb dX4_scan_181 (by decide) ?_
                  exact J_14 1 H locs ls (Eq.symm ((if_neg c_15).trans ((if_pos c_19).trans (lt_eq eu_20 (lt_eq eu_21 ((if_pos c_22).trans rfl)))))) hP hD hS (lv_sub hl [1] rfl)
    refine L_89 401 y_8 u_5 0 H locs ls (by omega) (by omega) (by omega) hP hD hS (lv_sub hl [0, 1] rfl) (fun u_23 H locs ls eu_23 pv_89_0 pv_89_1 hP hD hS hl => ?_)
    have hP : va_P D vwCl (tpW U cB p_len p_bytes ++ (rdW Q U cI u_23.2.1 u_7 u_23.2.2 u_5 d_fault d_num ++ R)) H := hP
    have hD : va_D A (tpW U cB p_len p_bytes ++ (rdW Q U cI u_23.2.1 u_7 u_23.2.2 u_5 d_fault d_num ++ R)) := hD
    refine lv_aload_n hx hb dX4_scan_189 rfl (lv_at hl 0 rfl) ?_
    refine va_get (D := D) (ci := 4) (v := .int u_7) (C := RX4) (T := TX4) (N := 7) hx hb hts iX4 hown hK hP 2 rfl rfl 3 (by decide) k19 (fun _ h9 => h9) rfl dX4_scan_190 ?_
    refine lv_iconst (v := 2) hx hb dX4_scan_193 (by decide) ?_
    refine lv_icmp_ne (tgt := 215) hx hb dX4_scan_194 (by decide) (fun c_24 => ?_) (fun c_24 => ?_)
    · have d_24 := i_eqn rfl (show (2 : Int32).toInt = 2 from by decide) c_24
      rw [hQm]
      exact mx_vret (u0 := sX4_scan p_len p_bytes d_place) (rv := (fun _ => none)) (w1 := (fun u => tpW U cB p_len p_bytes ++ (rdW Q U cI u.1 u.2.1 u.2.2.1 u.2.2.2 d_fault d_num ++ R))) (u := (u_23.2.1, u_7, u_23.2.2, u_5)) hx hb hr hlocks hK hS (lt_eq eu_5 (lt_eq eu_6 (lt_eq eu_7 (lt_eq ey_8 (lt_eq eu_23 ((if_neg c_24).trans rfl)))))) hP hD rfl dX4_scan_215
    · have d_24 := i_eq rfl (show (2 : Int32).toInt = 2 from by decide) c_24
      refine lv_aload_n hx hb dX4_scan_197 rfl (lv_at hl 0 rfl) ?_
      refine va_get (D := D) (ci := 4) (v := .int u_23.2.1) (C := RX4) (T := TX4) (N := 7) hx hb hts iX4 hown hK hP 2 rfl rfl 2 (by decide) k15 (fun _ h9 => h9) rfl dX4_scan_198 ?_
      refine lv_aload_n hx hb dX4_scan_201 rfl (lv_at hl 0 rfl) ?_
      refine va_get (D := D) (ci := 4) (v := .int u_5) (C := RX4) (T := TX4) (N := 7) hx hb hts iX4 hown hK hP 2 rfl rfl 5 (by decide) k25 (fun _ h9 => h9) rfl dX4_scan_202 ?_
      refine lv_isub hx hb dX4_scan_205 ?_
      refine lv_iconst (v := 3) hx hb dX4_scan_206 (by decide) ?_
      refine lv_icmp_le (tgt := 215) hx hb dX4_scan_207 (by decide) (fun c_25 => ?_) (fun c_25 => ?_)
      · have d_25 := i_le rfl (show (3 : Int32).toInt = 3 from by decide) c_25
        rw [hQm]
        exact mx_vret (u0 := sX4_scan p_len p_bytes d_place) (rv := (fun _ => none)) (w1 := (fun u => tpW U cB p_len p_bytes ++ (rdW Q U cI u.1 u.2.1 u.2.2.1 u.2.2.2 d_fault d_num ++ R))) (u := (u_23.2.1, u_7, u_23.2.2, u_5)) hx hb hr hlocks hK hS (lt_eq eu_5 (lt_eq eu_6 (lt_eq eu_7 (lt_eq ey_8 (lt_eq eu_23 ((if_pos c_24).trans ((if_pos c_25).trans rfl))))))) hP hD rfl dX4_scan_215
      · have d_25 := i_len rfl (show (3 : Int32).toInt = 3 from by decide) c_25
        refine lv_aload_n hx hb dX4_scan_210 rfl (lv_at hl 0 rfl) ?_
        refine lv_iconst (v := 5) hx hb dX4_scan_211 (by decide) ?_
        refine va_put (D := D) (ci := 4) (v := .int 5) (ty := .int) (C := RX4) (T := TX4) (N := 7) hx hb hts iX4 tyX4 tyX4_ok nmX4 hown hK hP hD hS 2 rfl rfl 3 (by decide) k19 (fun _ h9 => h9) rfl (by decide +kernel) rfl rfl (Nat.le_of_ble_eq_true rfl) dX4_scan_212 (fun H locs hP hD hS => ?_)
        have hP : va_P D vwCl (tpW U cB p_len p_bytes ++ (rdW Q U cI u_23.2.1 5 u_23.2.2 u_5 d_fault d_num ++ R)) H := hP
        have hD : va_D A (tpW U cB p_len p_bytes ++ (rdW Q U cI u_23.2.1 5 u_23.2.2 u_5 d_fault d_num ++ R)) := hD
        rw [hQm]
        exact mx_vret (u0 := sX4_scan p_len p_bytes d_place) (rv := (fun _ => none)) (w1 := (fun u => tpW U cB p_len p_bytes ++ (rdW Q U cI u.1 u.2.1 u.2.2.1 u.2.2.2 d_fault d_num ++ R))) (u := (u_23.2.1, 5, u_23.2.2, u_5)) hx hb hr hlocks hK hS (lt_eq eu_5 (lt_eq eu_6 (lt_eq eu_7 (lt_eq ey_8 (lt_eq eu_23 ((if_pos c_24).trans ((if_neg c_25).trans rfl))))))) hP hD rfl dX4_scan_215
  refine lv_if_eq (tgt := 87) hx hb dX4_scan_80 (by decide) (fun c_9 => ?_) (fun c_9 => ?_)
  · have d_9 := i_eq rfl (show (0 : Int32).toInt = 0 from by decide) c_9
    refine lv_iconst (v := 0) hx hb dX4_scan_87 (by decide) ?_
    exact J_8 0 H locs ls (Eq.symm ((if_pos c_9).trans rfl)) hP hD hS (lv_sub hl [0] rfl)
  · have d_9 := i_eqn rfl (show (0 : Int32).toInt = 0 from by decide) c_9
    refine lv_iconst (v := 1) hx hb dX4_scan_83 (by decide) ?_
    refine lv_goto (tgt := 88) hx hb dX4_scan_84 (by decide) ?_
    exact J_8 1 H locs ls (Eq.symm ((if_neg c_9).trans rfl)) hP hD hS (lv_sub hl [0] rfl)

def sX4_failed (k : Int32) : Int32 × (Int32) := (0, k)
set_option maxHeartbeats 4000000 in
set_option maxRecDepth 100000 in
theorem mtX4_failed (l : Launch) (D : va_G) (cI cB cK cS : ClassId) (U Q : Nat → Nat) (R : va_W) (p_len : Int32) (p_bytes : Nat → Int32) (d_place : Int32) (d_token : Int32) (d_value : Int32) (d_start : Int32) (d_fault : Int32) (d_num : Nat → Int32) (k : Int32) : MX l yX4_failed wsX4_failed (rmX 1) D (tyX cI cB cK cS) pF0 (tpW U cB p_len p_bytes ++ (rdW Q U cI d_place d_token d_value d_start d_fault d_num ++ R)) [.ref (Q 0), .int k] (sX4_failed k) (fun u => some (.int u.1)) (fun u => tpW U cB p_len p_bytes ++ (rdW Q U cI d_place d_token d_value d_start u.2 d_num ++ R)) := by
  refine mx_intro (cc := cX4_failed) (maxL := 2) (ret := (some .boolean)) (by decide) rfl (Nat.le_of_ble_eq_true rfl) ?_
  intro p e s m below meth c A ls H locs Qm hQm hx hb hr hml hts hown hlocks hA hS hP hK hD hF hl
  have hown : s.vm.findClass RX4 = some m.cls := hown
  have hl : lv_has ls 2 [(0, .ref (Q 0)), (1, .int k)] := hl
  have k28 := hts (.fieldLink RX4 28 "PigRounds$Reader" "fault" "I") (by decide +kernel)
  have iX4 : ∀ w ∈ u_ws RX4 TX4 7, w ∈ wsX4_failed := by decide +kernel
  refine lv_aload_n hx hb dX4_failed_0 rfl (lv_at hl 0 rfl) ?_
  refine lv_iload_n hx hb dX4_failed_1 rfl (lv_at hl 1 rfl) ?_
  refine va_put (D := D) (ci := 4) (v := .int k) (ty := .int) (C := RX4) (T := TX4) (N := 7) hx hb hts iX4 tyX4 tyX4_ok nmX4 hown hK hP hD hS 2 rfl rfl 6 (by decide) k28 (fun _ h9 => h9) rfl (by decide +kernel) rfl rfl (Nat.le_of_ble_eq_true rfl) dX4_failed_2 (fun H locs hP hD hS => ?_)
  have hP : va_P D vwCl (tpW U cB p_len p_bytes ++ (rdW Q U cI d_place d_token d_value d_start k d_num ++ R)) H := hP
  have hD : va_D A (tpW U cB p_len p_bytes ++ (rdW Q U cI d_place d_token d_value d_start k d_num ++ R)) := hD
  refine lv_iconst (v := 0) hx hb dX4_failed_5 (by decide) ?_
  rw [hQm]
  exact mx_zret (u0 := sX4_failed k) (rv := (fun u => some (.int u.1))) (w1 := (fun u => tpW U cB p_len p_bytes ++ (rdW Q U cI d_place d_token d_value d_start u.2 d_num ++ R))) (u := (0, k)) hx hb hr hlocks hK hS rfl hP hD rfl rfl dX4_failed_6
theorem sX4_failed_z {k : Int32} {u : Int32 × Int32} (e : u = sX4_failed k) : u.1 = 0 ∨ u.1 = 1 := Or.inl (by rw [e]; rfl)
theorem pl_inc {x len : Int32} (h : pl_ok x) (hl : len.toInt ≤ 400) (hlt : x.toInt < len.toInt) : pl_ok (x + 1) := by
  obtain ⟨h0, h1⟩ := h
  unfold pl_ok
  rw [i_addv (a := x) rfl (show (1 : Int32).toInt = 1 from by decide) (by omega) (by omega)]
  omega
theorem lX4_scan_0_ok {len : Int32} {by9 : Nat → Int32} (hl : len.toInt ≤ 400) : ∀ (n : Nat) (x : Int32), pl_ok x → pl_ok (lX4_scan_0 len by9 n x) := by
  intro n
  induction n with
  | zero => intro x h; exact h
  | succ n ih =>
    intro x h
    unfold lX4_scan_0
    refine if_P pl_ok (fun _ => h) (fun c => ?_)
    have hlt := i_len rfl rfl c
    exact lt_P (fun _ => True) pl_ok trivial (fun u2 _ => lt_P (fun _ => True) pl_ok trivial (fun u3 _ => if_P pl_ok (fun _ => ih _ (pl_inc h hl hlt)) (fun _ => h)))
theorem lX4_scan_89_ok {len tk : Int32} {by9 : Nat → Int32} (hl : len.toInt ≤ 400) : ∀ (n : Nat) (g x v : Int32), pl_ok x → pl_ok (lX4_scan_89 len by9 tk n g x v).2.1 := by
  intro n
  induction n with
  | zero => intro g x v h; exact h
  | succ n ih =>
    intro g x v h
    unfold lX4_scan_89
    refine if_P (fun r : Int32 × Int32 × Int32 => pl_ok r.2.1) (fun _ => h) (fun _ => ?_)
    refine if_P (fun r : Int32 × Int32 × Int32 => pl_ok r.2.1) (fun _ => h) (fun c => ?_)
    have hlt := i_len rfl rfl c
    refine lt_P (fun _ => True) (fun r : Int32 × Int32 × Int32 => pl_ok r.2.1) trivial (fun u12 _ => ?_)
    refine lt_P (fun _ => True) (fun r : Int32 × Int32 × Int32 => pl_ok r.2.1) trivial (fun x13 _ => ?_)
    refine lt_P (fun _ => True) (fun r : Int32 × Int32 × Int32 => pl_ok r.2.1) trivial (fun y14 _ => ?_)
    exact ih _ _ _ (pl_inc h hl hlt)
theorem sX4_scan_ok {len x : Int32} {by9 : Nat → Int32} {u : Int32 × Int32 × Int32 × Int32} (h : pl_ok x) (hl : len.toInt ≤ 400) (e : u = sX4_scan len by9 x) : pl_ok u.1 := by
  rw [e]
  unfold sX4_scan
  refine lt_P pl_ok (fun r : Int32 × Int32 × Int32 × Int32 => pl_ok r.1) (lX4_scan_0_ok hl _ _ h) (fun u5 h5 => ?_)
  refine lt_P (fun _ => True) (fun r : Int32 × Int32 × Int32 × Int32 => pl_ok r.1) trivial (fun u6 _ => ?_)
  refine lt_P (fun _ => True) (fun r : Int32 × Int32 × Int32 × Int32 => pl_ok r.1) trivial (fun u7 _ => ?_)
  refine lt_P (fun _ => True) (fun r : Int32 × Int32 × Int32 × Int32 => pl_ok r.1) trivial (fun y8 _ => ?_)
  refine lt_P (fun r : Int32 × Int32 × Int32 => pl_ok r.2.1) (fun r : Int32 × Int32 × Int32 × Int32 => pl_ok r.1) (lX4_scan_89_ok hl _ _ _ _ h5) (fun u23 h23 => ?_)
  exact if_P (fun r : Int32 × Int32 × Int32 × Int32 => pl_ok r.1) (fun _ => if_P (fun r : Int32 × Int32 × Int32 × Int32 => pl_ok r.1) (fun _ => h23) (fun _ => h23)) (fun _ => h23)
def sX4_takeNumber (lo : Int32) (hi : Int32) (p_len : Int32) (p_bytes : Nat → Int32) (d_place : Int32) (d_fault : Int32) : Int32 × (Int32) × (Int32) × (Int32) × (Int32) × (Int32) := lt (sX4_scan p_len p_bytes d_place) (fun u_1 : (Int32) × (Int32) × (Int32) × (Int32) => if u_1.2.1 = 2 then (if u_1.2.2.1 < lo then (lt (sX4_failed 2) (fun u_4 : Int32 × (Int32) => if u_4.1 = 0 then ((0, u_1.1, u_1.2.1, u_1.2.2.1, u_1.2.2.2, u_4.2)) else ((1, u_1.1, u_1.2.1, u_1.2.2.1, u_1.2.2.2, u_4.2)))) else (if u_1.2.2.1 ≤ hi then ((1, u_1.1, u_1.2.1, u_1.2.2.1, u_1.2.2.2, d_fault)) else (lt (sX4_failed 2) (fun u_7 : Int32 × (Int32) => if u_7.1 = 0 then ((0, u_1.1, u_1.2.1, u_1.2.2.1, u_1.2.2.2, u_7.2)) else ((1, u_1.1, u_1.2.1, u_1.2.2.1, u_1.2.2.2, u_7.2)))))) else (lt (sX4_failed 1) (fun u_9 : Int32 × (Int32) => (u_9.1, u_1.1, u_1.2.1, u_1.2.2.1, u_1.2.2.2, u_9.2))))
set_option maxHeartbeats 4000000 in
set_option maxRecDepth 100000 in
theorem mtX4_takeNumber (l : Launch) (D : va_G) (cI cB cK cS : ClassId) (U Q : Nat → Nat) (R : va_W) (p_len : Int32) (p_bytes : Nat → Int32) (d_place : Int32) (d_token : Int32) (d_value : Int32) (d_start : Int32) (d_fault : Int32) (d_num : Nat → Int32) (lo : Int32) (hi : Int32) (hpl : pl_ok d_place) (hl1 : p_len.toInt ≤ 400) : MX l yX4_takeNumber wsX4_takeNumber (rmX 3) D (tyX cI cB cK cS) pF0 (tpW U cB p_len p_bytes ++ (rdW Q U cI d_place d_token d_value d_start d_fault d_num ++ R)) [.ref (Q 0), .int lo, .int hi] (sX4_takeNumber lo hi p_len p_bytes d_place d_fault) (fun u => some (.int u.1)) (fun u => tpW U cB p_len p_bytes ++ (rdW Q U cI u.2.1 u.2.2.1 u.2.2.2.1 u.2.2.2.2.1 u.2.2.2.2.2 d_num ++ R)) := by
  refine mx_intro (cc := cX4_takeNumber) (maxL := 3) (ret := (some .boolean)) (by decide) rfl (Nat.le_of_ble_eq_true rfl) ?_
  intro p e s m below meth c A ls H locs Qm hQm hx hb hr hml hts hown hlocks hA hS hP hK hD hF hl
  have hown : s.vm.findClass RX4 = some m.cls := hown
  have hl : lv_has ls 3 [(0, .ref (Q 0)), (1, .int lo), (2, .int hi)] := hl
  have k19 := hts (.fieldLink RX4 19 "PigRounds$Reader" "token" "I") (by decide +kernel)
  have k22 := hts (.fieldLink RX4 22 "PigRounds$Reader" "value" "I") (by decide +kernel)
  have iX4 : ∀ w ∈ u_ws RX4 TX4 7, w ∈ wsX4_takeNumber := by decide +kernel
  refine lv_aload_n hx hb dX4_takeNumber_0 rfl (lv_at hl 0 rfl) ?_
  refine mx_callV (As := []) (rest := []) ⟨hx, hb, hml, hown, hts⟩ (mtX4_scan l D cI cB cK cS U Q R p_len p_bytes d_place d_token d_value d_start d_fault d_num (by first | assumption | omega) (by first | assumption | omega)) (cwV 0 hts gX4_takeNumber_X4_scan rfl rfl rfl (by decide +kernel) ⟨Nat.le_of_ble_eq_true rfl, Nat.le_of_ble_eq_true rfl⟩) pF0_ok trivial hK hP hD hS hA 2 rfl rfl rfl rfl hl.1 rfl (Nat.le_of_ble_eq_true rfl) dX4_takeNumber_1 ⟨Nat.le_refl _, Nat.le_refl _⟩ (fun u_1 H locs eu_1 hP hD hS => ?_)
  refine W.eq (g2 := F0 m 4 ls []) rfl ?_
  have hP : va_P D vwCl (tpW U cB p_len p_bytes ++ (rdW Q U cI u_1.1 u_1.2.1 u_1.2.2.1 u_1.2.2.2 d_fault d_num ++ R)) H := hP
  have hD : va_D A (tpW U cB p_len p_bytes ++ (rdW Q U cI u_1.1 u_1.2.1 u_1.2.2.1 u_1.2.2.2 d_fault d_num ++ R)) := hD
  have hpl_u_1 := sX4_scan_ok (by assumption) (by assumption) eu_1
  refine lv_aload_n hx hb dX4_takeNumber_4 rfl (lv_at hl 0 rfl) ?_
  refine va_get (D := D) (ci := 4) (v := .int u_1.2.1) (C := RX4) (T := TX4) (N := 7) hx hb hts iX4 hown hK hP 2 rfl rfl 3 (by decide) k19 (fun _ h9 => h9) rfl dX4_takeNumber_5 ?_
  refine lv_iconst (v := 2) hx hb dX4_takeNumber_8 (by decide) ?_
  refine lv_icmp_eq (tgt := 18) hx hb dX4_takeNumber_9 (by decide) (fun c_2 => ?_) (fun c_2 => ?_)
  · refine lv_aload_n hx hb dX4_takeNumber_18 rfl (lv_at hl 0 rfl) ?_
    refine va_get (D := D) (ci := 4) (v := .int u_1.2.2.1) (C := RX4) (T := TX4) (N := 7) hx hb hts iX4 hown hK hP 2 rfl rfl 4 (by decide) k22 (fun _ h9 => h9) rfl dX4_takeNumber_19 ?_
    refine lv_iload_n hx hb dX4_takeNumber_22 rfl (lv_at hl 1 rfl) ?_
    refine lv_icmp_lt (tgt := 34) hx hb dX4_takeNumber_23 (by decide) (fun c_3 => ?_) (fun c_3 => ?_)
    · refine lv_aload_n hx hb dX4_takeNumber_34 rfl (lv_at hl 0 rfl) ?_
      refine lv_iconst (v := 2) hx hb dX4_takeNumber_35 (by decide) ?_
      refine mx_callV (As := [.int 2]) (rest := []) ⟨hx, hb, hml, hown, hts⟩ (mtX4_failed l D cI cB cK cS U Q R p_len p_bytes u_1.1 u_1.2.1 u_1.2.2.1 u_1.2.2.2 d_fault d_num 2) (cwV 1 hts gX4_takeNumber_X4_failed rfl rfl rfl (by decide +kernel) ⟨Nat.le_of_ble_eq_true rfl, Nat.le_of_ble_eq_true rfl⟩) pF0_ok trivial hK hP hD hS hA 2 rfl rfl rfl rfl hl.1 rfl (Nat.le_of_ble_eq_true rfl) dX4_takeNumber_36 ⟨Nat.le_refl _, Nat.le_refl _⟩ (fun u_4 H locs eu_4 hP hD hS => ?_)
      refine W.eq (g2 := F0 m 39 ls [.int u_4.1]) rfl ?_
      have hP : va_P D vwCl (tpW U cB p_len p_bytes ++ (rdW Q U cI u_1.1 u_1.2.1 u_1.2.2.1 u_1.2.2.2 u_4.2 d_num ++ R)) H := hP
      have hD : va_D A (tpW U cB p_len p_bytes ++ (rdW Q U cI u_1.1 u_1.2.1 u_1.2.2.1 u_1.2.2.2 u_4.2 d_num ++ R)) := hD
      refine lv_if_eq (tgt := 46) hx hb dX4_takeNumber_39 (by decide) (fun c_5 => ?_) (fun c_5 => ?_)
      · refine lv_iconst (v := 0) hx hb dX4_takeNumber_46 (by decide) ?_
        rw [hQm]
        exact mx_zret (u0 := sX4_takeNumber lo hi p_len p_bytes d_place d_fault) (rv := (fun u => some (.int u.1))) (w1 := (fun u => tpW U cB p_len p_bytes ++ (rdW Q U cI u.2.1 u.2.2.1 u.2.2.2.1 u.2.2.2.2.1 u.2.2.2.2.2 d_num ++ R))) (u := (0, u_1.1, u_1.2.1, u_1.2.2.1, u_1.2.2.2, u_4.2)) hx hb hr hlocks hK hS (lt_eq eu_1 ((if_pos c_2).trans ((if_pos c_3).trans (lt_eq eu_4 ((if_pos c_5).trans rfl))))) hP hD rfl rfl dX4_takeNumber_47
      · refine lv_iconst (v := 1) hx hb dX4_takeNumber_42 (by decide) ?_
        refine lv_goto (tgt := 47) hx hb dX4_takeNumber_43 (by decide) ?_
        rw [hQm]
        exact mx_zret (u0 := sX4_takeNumber lo hi p_len p_bytes d_place d_fault) (rv := (fun u => some (.int u.1))) (w1 := (fun u => tpW U cB p_len p_bytes ++ (rdW Q U cI u.2.1 u.2.2.1 u.2.2.2.1 u.2.2.2.2.1 u.2.2.2.2.2 d_num ++ R))) (u := (1, u_1.1, u_1.2.1, u_1.2.2.1, u_1.2.2.2, u_4.2)) hx hb hr hlocks hK hS (lt_eq eu_1 ((if_pos c_2).trans ((if_pos c_3).trans (lt_eq eu_4 ((if_neg c_5).trans rfl))))) hP hD rfl rfl dX4_takeNumber_47
    · refine lv_aload_n hx hb dX4_takeNumber_26 rfl (lv_at hl 0 rfl) ?_
      refine va_get (D := D) (ci := 4) (v := .int u_1.2.2.1) (C := RX4) (T := TX4) (N := 7) hx hb hts iX4 hown hK hP 2 rfl rfl 4 (by decide) k22 (fun _ h9 => h9) rfl dX4_takeNumber_27 ?_
      refine lv_iload_n hx hb dX4_takeNumber_30 rfl (lv_at hl 2 rfl) ?_
      refine lv_icmp_le (tgt := 42) hx hb dX4_takeNumber_31 (by decide) (fun c_6 => ?_) (fun c_6 => ?_)
      · refine lv_iconst (v := 1) hx hb dX4_takeNumber_42 (by decide) ?_
        refine lv_goto (tgt := 47) hx hb dX4_takeNumber_43 (by decide) ?_
        rw [hQm]
        exact mx_zret (u0 := sX4_takeNumber lo hi p_len p_bytes d_place d_fault) (rv := (fun u => some (.int u.1))) (w1 := (fun u => tpW U cB p_len p_bytes ++ (rdW Q U cI u.2.1 u.2.2.1 u.2.2.2.1 u.2.2.2.2.1 u.2.2.2.2.2 d_num ++ R))) (u := (1, u_1.1, u_1.2.1, u_1.2.2.1, u_1.2.2.2, d_fault)) hx hb hr hlocks hK hS (lt_eq eu_1 ((if_pos c_2).trans ((if_neg c_3).trans ((if_pos c_6).trans rfl)))) hP hD rfl rfl dX4_takeNumber_47
      · refine lv_aload_n hx hb dX4_takeNumber_34 rfl (lv_at hl 0 rfl) ?_
        refine lv_iconst (v := 2) hx hb dX4_takeNumber_35 (by decide) ?_
        refine mx_callV (As := [.int 2]) (rest := []) ⟨hx, hb, hml, hown, hts⟩ (mtX4_failed l D cI cB cK cS U Q R p_len p_bytes u_1.1 u_1.2.1 u_1.2.2.1 u_1.2.2.2 d_fault d_num 2) (cwV 1 hts gX4_takeNumber_X4_failed rfl rfl rfl (by decide +kernel) ⟨Nat.le_of_ble_eq_true rfl, Nat.le_of_ble_eq_true rfl⟩) pF0_ok trivial hK hP hD hS hA 2 rfl rfl rfl rfl hl.1 rfl (Nat.le_of_ble_eq_true rfl) dX4_takeNumber_36 ⟨Nat.le_refl _, Nat.le_refl _⟩ (fun u_7 H locs eu_7 hP hD hS => ?_)
        refine W.eq (g2 := F0 m 39 ls [.int u_7.1]) rfl ?_
        have hP : va_P D vwCl (tpW U cB p_len p_bytes ++ (rdW Q U cI u_1.1 u_1.2.1 u_1.2.2.1 u_1.2.2.2 u_7.2 d_num ++ R)) H := hP
        have hD : va_D A (tpW U cB p_len p_bytes ++ (rdW Q U cI u_1.1 u_1.2.1 u_1.2.2.1 u_1.2.2.2 u_7.2 d_num ++ R)) := hD
        refine lv_if_eq (tgt := 46) hx hb dX4_takeNumber_39 (by decide) (fun c_8 => ?_) (fun c_8 => ?_)
        · refine lv_iconst (v := 0) hx hb dX4_takeNumber_46 (by decide) ?_
          rw [hQm]
          exact mx_zret (u0 := sX4_takeNumber lo hi p_len p_bytes d_place d_fault) (rv := (fun u => some (.int u.1))) (w1 := (fun u => tpW U cB p_len p_bytes ++ (rdW Q U cI u.2.1 u.2.2.1 u.2.2.2.1 u.2.2.2.2.1 u.2.2.2.2.2 d_num ++ R))) (u := (0, u_1.1, u_1.2.1, u_1.2.2.1, u_1.2.2.2, u_7.2)) hx hb hr hlocks hK hS (lt_eq eu_1 ((if_pos c_2).trans ((if_neg c_3).trans ((if_neg c_6).trans (lt_eq eu_7 ((if_pos c_8).trans rfl)))))) hP hD rfl rfl dX4_takeNumber_47
        · refine lv_iconst (v := 1) hx hb dX4_takeNumber_42 (by decide) ?_
          refine lv_goto (tgt := 47) hx hb dX4_takeNumber_43 (by decide) ?_
          rw [hQm]
          exact mx_zret (u0 := sX4_takeNumber lo hi p_len p_bytes d_place d_fault) (rv := (fun u => some (.int u.1))) (w1 := (fun u => tpW U cB p_len p_bytes ++ (rdW Q U cI u.2.1 u.2.2.1 u.2.2.2.1 u.2.2.2.2.1 u.2.2.2.2.2 d_num ++ R))) (u := (1, u_1.1, u_1.2.1, u_1.2.2.1, u_1.2.2.2, u_7.2)) hx hb hr hlocks hK hS (lt_eq eu_1 ((if_pos c_2).trans ((if_neg c_3).trans ((if_neg c_6).trans (lt_eq eu_7 ((if_neg c_8).trans rfl)))))) hP hD rfl rfl dX4_takeNumber_47
  · refine lv_aload_n hx hb dX4_takeNumber_12 rfl (lv_at hl 0 rfl) ?_
    refine lv_iconst (v := 1) hx hb dX4_takeNumber_13 (by decide) ?_
    refine mx_callV (As := [.int 1]) (rest := []) ⟨hx, hb, hml, hown, hts⟩ (mtX4_failed l D cI cB cK cS U Q R p_len p_bytes u_1.1 u_1.2.1 u_1.2.2.1 u_1.2.2.2 d_fault d_num 1) (cwV 1 hts gX4_takeNumber_X4_failed rfl rfl rfl (by decide +kernel) ⟨Nat.le_of_ble_eq_true rfl, Nat.le_of_ble_eq_true rfl⟩) pF0_ok trivial hK hP hD hS hA 2 rfl rfl rfl rfl hl.1 rfl (Nat.le_of_ble_eq_true rfl) dX4_takeNumber_14 ⟨Nat.le_refl _, Nat.le_refl _⟩ (fun u_9 H locs eu_9 hP hD hS => ?_)
    refine W.eq (g2 := F0 m 17 ls [.int u_9.1]) rfl ?_
    have hP : va_P D vwCl (tpW U cB p_len p_bytes ++ (rdW Q U cI u_1.1 u_1.2.1 u_1.2.2.1 u_1.2.2.2 u_9.2 d_num ++ R)) H := hP
    have hD : va_D A (tpW U cB p_len p_bytes ++ (rdW Q U cI u_1.1 u_1.2.1 u_1.2.2.1 u_1.2.2.2 u_9.2 d_num ++ R)) := hD
    rw [hQm]
    exact mx_zret (u0 := sX4_takeNumber lo hi p_len p_bytes d_place d_fault) (rv := (fun u => some (.int u.1))) (w1 := (fun u => tpW U cB p_len p_bytes ++ (rdW Q U cI u.2.1 u.2.2.1 u.2.2.2.1 u.2.2.2.2.1 u.2.2.2.2.2 d_num ++ R))) (u := (u_9.1, u_1.1, u_1.2.1, u_1.2.2.1, u_1.2.2.2, u_9.2)) hx hb hr hlocks hK hS (lt_eq eu_1 ((if_neg c_2).trans (lt_eq eu_9 rfl))) hP hD rfl (z_narrow (sX4_failed_z eu_9)) dX4_takeNumber_17
