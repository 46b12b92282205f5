def sX11_isKind (k : Int32) (m_kinds : Int32) : Int32 := lt (sX11_in k.toInt64 0 ((m_kinds - 1).toInt64)) (fun u_1 : Int32 => (u_1))
set_option maxHeartbeats 4000000 in
set_option maxRecDepth 100000 in
theorem mtX11_isKind (l : Launch) (D : va_G) (cI cB cK cS : ClassId) (Y : Nat → Nat) (R : va_W) (m_thrown : Int32) (m_status : Int32) (m_isThere : Int32) (m_kinds : Int32) (m_newKinds : Int32) (m_print : Int32) (m_low : Int32) (m_high : Int32) (m_lot : Int32) (m_taped : Int32) (m_latest : Int32) (m_length : Int32) (m_cursor : Int32) (m_token : Int32) (m_from : Int32) (m_till : Int32) (m_fault : Int32) (m_faultAt : Int32) (m_traced : Int32) (r_lane : Nat → Int32) (r_many : Nat → Int32) (r_item : Nat → Int32) (r_market : Nat → Int32) (r_of : Nat → Int32) (r_newMarket : Nat → Int32) (r_newStart : Nat → Int32) (r_newOf : Nat → Int32) (r_newCoin : Nat → Int32) (r_state : Nat → Int32) (r_kept : Nat → Int32) (r_tape : Nat → Int32) (r_brings : Nat → Int32) (r_seen : Nat → Int32) (r_seenOut : Nat → Int32) (r_trace : Nat → Int32) (k : Int32) : MX l yX11_isKind wsX11_isKind (rmX 2) D (tyX cI cB cK cS) pF0 (mdW Y cI m_thrown m_status m_isThere m_kinds m_newKinds m_print m_low m_high m_lot m_taped m_latest m_length m_cursor m_token m_from m_till m_fault m_faultAt m_traced r_lane r_many r_item r_market r_of r_newMarket r_newStart r_newOf r_newCoin r_state r_kept r_tape r_brings r_seen r_seenOut r_trace ++ R) [.ref (Y 0), .int k] (sX11_isKind k m_kinds) (fun u => some (.int u)) (fun _ => mdW Y cI m_thrown m_status m_isThere m_kinds m_newKinds m_print m_low m_high m_lot m_taped m_latest m_length m_cursor m_token m_from m_till m_fault m_faultAt m_traced r_lane r_many r_item r_market r_of r_newMarket r_newStart r_newOf r_newCoin r_state r_kept r_tape r_brings r_seen r_seenOut r_trace ++ R) := by
  refine mx_intro (cc := cX11_isKind) (maxL := 2) (ret := (some .boolean)) (by decide) rfl (Nat.le_of_ble_eq_true rfl) ?_
  intro p e s m below meth c A ls H locs Qm hQm hx hb hr hml hts hown hlocks hA hS hP hK hD hF hl
  have hown : s.vm.findClass RX11 = some m.cls := hown
  have hl : lv_has ls 2 [(0, .ref (Y 0)), (1, .int k)] := hl
  have k180 := hts (.fieldLink RX11 180 "PigRoundsModel" "kinds" "I") (by decide +kernel)
  have iX11 : ∀ w ∈ u_ws RX11 TX11 35, w ∈ wsX11_isKind := by decide +kernel
  refine lv_iload_n hx hb dX11_isKind_0 rfl (lv_at hl 1 rfl) ?_
  refine lv_i2l (v := k.toInt64) hx hb dX11_isKind_1 rfl ?_
  refine lv_lconst (v := 0) hx hb dX11_isKind_2 (by decide) ?_
  refine lv_aload_n hx hb dX11_isKind_3 rfl (lv_at hl 0 rfl) ?_
  refine va_get (D := D) (ci := 9) (v := .int m_kinds) (C := RX11) (T := TX11) (N := 35) hx hb hts iX11 hown hK hP 0 rfl rfl 6 (by decide) k180 (fun _ h9 => h9) rfl dX11_isKind_4 ?_
  refine lv_iconst (v := 1) hx hb dX11_isKind_7 (by decide) ?_
  refine lv_isub hx hb dX11_isKind_8 ?_
  refine lv_i2l (v := (m_kinds - 1).toInt64) hx hb dX11_isKind_9 rfl ?_
  refine mx_callS (As := [.long k.toInt64, .long 0, .long ((m_kinds - 1).toInt64)]) (rest := []) ⟨hx, hb, hml, hown, hts⟩ (mtX11_in l D cI cB cK cS (mdW Y cI m_thrown m_status m_isThere m_kinds m_newKinds m_print m_low m_high m_lot m_taped m_latest m_length m_cursor m_token m_from m_till m_fault m_faultAt m_traced r_lane r_many r_item r_market r_of r_newMarket r_newStart r_newOf r_newCoin r_state r_kept r_tape r_brings r_seen r_seenOut r_trace ++ R) k.toInt64 0 ((m_kinds - 1).toInt64)) (va_cwS 3 hts gX11_isKind_X11_in rfl rfl rfl (by decide +kernel) ⟨Nat.le_of_ble_eq_true rfl, Nat.le_of_ble_eq_true rfl⟩) pF0_ok trivial hK hP hD hS hA rfl hl.1 rfl (Nat.le_of_ble_eq_true rfl) dX11_isKind_10 ⟨Nat.le_refl _, Nat.le_refl _⟩ (fun u_1 H locs eu_1 hP hD hS => ?_)
  refine W.eq (g2 := F0 m 13 ls [.int u_1]) rfl ?_
  have hP : va_P D vwCl (mdW Y cI m_thrown m_status m_isThere m_kinds m_newKinds m_print m_low m_high m_lot m_taped m_latest m_length m_cursor m_token m_from m_till m_fault m_faultAt m_traced r_lane r_many r_item r_market r_of r_newMarket r_newStart r_newOf r_newCoin r_state r_kept r_tape r_brings r_seen r_seenOut r_trace ++ R) H := hP
  have hD : va_D A (mdW Y cI m_thrown m_status m_isThere m_kinds m_newKinds m_print m_low m_high m_lot m_taped m_latest m_length m_cursor m_token m_from m_till m_fault m_faultAt m_traced r_lane r_many r_item r_market r_of r_newMarket r_newStart r_newOf r_newCoin r_state r_kept r_tape r_brings r_seen r_seenOut r_trace ++ R) := hD
  rw [hQm]
  exact mx_zret (u0 := sX11_isKind k m_kinds) (rv := (fun u => some (.int u))) (w1 := (fun _ => mdW Y cI m_thrown m_status m_isThere m_kinds m_newKinds m_print m_low m_high m_lot m_taped m_latest m_length m_cursor m_token m_from m_till m_fault m_faultAt m_traced r_lane r_many r_item r_market r_of r_newMarket r_newStart r_newOf r_newCoin r_state r_kept r_tape r_brings r_seen r_seenOut r_trace ++ R)) (u := (u_1)) hx hb hr hlocks hK hS (lt_eq eu_1 rfl) hP hD rfl (z_narrow (sX11_in_z eu_1)) dX11_isKind_13
theorem sX11_isKind_t {u k m_kinds : Int32} (h0 : 0 ≤ m_kinds.toInt) (e : u = sX11_isKind k m_kinds) (h : ¬ u = 0) : 0 ≤ k.toInt ∧ k.toInt ≤ m_kinds.toInt - 1 := by
  have h9 := i_rng m_kinds
  subst e; unfold sX11_isKind at h
  exact sX11_in_t (Int32.toInt_toInt64 _) (show (0 : Int64).toInt = 0 from by decide) ((Int32.toInt_toInt64 _).trans (i_subv rfl (show (1 : Int32).toInt = 1 from by decide) (by omega) (by omega))) rfl h
theorem b01 {a b : Int32} (ha : a = 0 ∨ a = 1) (e : b = if a = 0 then 0 else 1) : b = a := by
  rcases ha with rfl | rfl <;> simpa using e
def sX11_farmers (k : Int32) (w : Int32) (m_kinds : Int32) (m_print : Int32) (r_market : Nat → Int32) (r_of : Nat → Int32) (r_state : Nat → Int32) : Int32 × (Int32) := lt (sX11_isKind k m_kinds) (fun u_1 : Int32 => if u_1 = 0 then (((-1000001), 0)) else (lt (sX11_in w.toInt64 0 7) (fun u_3 : Int32 => if u_3 = 0 then (((-1000001), 0)) else (if w ≤ 5 then (if 4 ≤ w then (lt (if w = 4 then (7) else (12)) (fun y_7 : Int32 => ((r_state (y_7 + k).toNatClampNeg), 0))) else (lt (sX11_told k (2 + w) r_of) (fun u_10 : Int32 => (u_10, 0)))) else (lt (sX11_wiseGuess m_kinds m_print r_market r_of r_state) (fun u_11 : Int32 => lt (sX11_guessOf k u_11 m_print r_of r_state) (fun u_12 : Int32 => if w = 6 then ((u_12, 0)) else (lt (sX11_pigsBy k u_12 r_of) (fun u_14 : Int32 => (u_14, 0))))))))))
set_option maxHeartbeats 4000000 in
set_option maxRecDepth 100000 in
theorem mtX11_farmers (l : Launch) (D : va_G) (cI cB cK cS : ClassId) (Y : Nat → Nat) (R : va_W) (m_thrown : Int32) (m_status : Int32) (m_isThere : Int32) (m_kinds : Int32) (m_newKinds : Int32) (m_print : Int32) (m_low : Int32) (m_high : Int32) (m_lot : Int32) (m_taped : Int32) (m_latest : Int32) (m_length : Int32) (m_cursor : Int32) (m_token : Int32) (m_from : Int32) (m_till : Int32) (m_fault : Int32) (m_faultAt : Int32) (m_traced : Int32) (r_lane : Nat → Int32) (r_many : Nat → Int32) (r_item : Nat → Int32) (r_market : Nat → Int32) (r_of : Nat → Int32) (r_newMarket : Nat → Int32) (r_newStart : Nat → Int32) (r_newOf : Nat → Int32) (r_newCoin : Nat → Int32) (r_state : Nat → Int32) (r_kept : Nat → Int32) (r_tape : Nat → Int32) (r_brings : Nat → Int32) (r_seen : Nat → Int32) (r_seenOut : Nat → Int32) (r_trace : Nat → Int32) (k : Int32) (w : Int32) (hkd0 : 0 ≤ m_kinds.toInt) (hkd : m_kinds.toInt ≤ 5) (hkt : 0 < m_kinds.toInt → ¬ r_market 1 = 0) : MX l yX11_farmers wsX11_farmers (rmX 6) D (tyX cI cB cK cS) pF0 (mdW Y cI m_thrown m_status m_isThere m_kinds m_newKinds m_print m_low m_high m_lot m_taped m_latest m_length m_cursor m_token m_from m_till m_fault m_faultAt m_traced r_lane r_many r_item r_market r_of r_newMarket r_newStart r_newOf r_newCoin r_state r_kept r_tape r_brings r_seen r_seenOut r_trace ++ R) [.ref (Y 0), .int k, .int w] (sX11_farmers k w m_kinds m_print r_market r_of r_state) (fun u => some (.int u.1)) (fun u => mdW Y cI u.2 m_status m_isThere m_kinds m_newKinds m_print m_low m_high m_lot m_taped m_latest m_length m_cursor m_token m_from m_till m_fault m_faultAt m_traced r_lane r_many r_item r_market r_of r_newMarket r_newStart r_newOf r_newCoin r_state r_kept r_tape r_brings r_seen r_seenOut r_trace ++ R) := by
  refine mx_intro (cc := cX11_farmers) (maxL := 4) (ret := (some .int)) (by decide) rfl (Nat.le_of_ble_eq_true rfl) ?_
  intro p e s m below meth c A ls H locs Qm hQm hx hb hr hml hts hown hlocks hA hS hP hK hD hF hl
  have hown : s.vm.findClass RX11 = some m.cls := hown
  have hl : lv_has ls 4 [(0, .ref (Y 0)), (1, .int k), (2, .int w)] := hl
  have k58 := hts (.fieldLink RX11 58 "PigRoundsModel" "thrown" "I") (by decide +kernel)
  have k78 := hts (.constant RX11 78 (-1000001)) (by decide +kernel)
  have k66 := hts (.constantLong RX11 66 (7)) (by decide +kernel)
  have k37 := hts (.fieldLink RX11 37 "PigRoundsModel" "state" "[I") (by decide +kernel)
  have iX11 : ∀ w ∈ u_ws RX11 TX11 35, w ∈ wsX11_farmers := by decide +kernel
  refine lv_aload_n hx hb dX11_farmers_0 rfl (lv_at hl 0 rfl) ?_
  refine lv_iconst (v := 0) hx hb dX11_farmers_1 (by decide) ?_
  refine va_put (D := D) (ci := 9) (v := .int 0) (ty := .int) (C := RX11) (T := TX11) (N := 35) hx hb hts iX11 tyX11 tyX11_ok nmX11 hown hK hP hD hS 0 rfl rfl 0 (by decide) k58 (fun _ h9 => h9) rfl (by decide +kernel) rfl rfl (Nat.le_of_ble_eq_true rfl) dX11_farmers_2 (fun H locs hP hD hS => ?_)
  have hP : va_P D vwCl (mdW Y cI 0 m_status m_isThere m_kinds m_newKinds m_print m_low m_high m_lot m_taped m_latest m_length m_cursor m_token m_from m_till m_fault m_faultAt m_traced r_lane r_many r_item r_market r_of r_newMarket r_newStart r_newOf r_newCoin r_state r_kept r_tape r_brings r_seen r_seenOut r_trace ++ R) H := hP
  have hD : va_D A (mdW Y cI 0 m_status m_isThere m_kinds m_newKinds m_print m_low m_high m_lot m_taped m_latest m_length m_cursor m_token m_from m_till m_fault m_faultAt m_traced r_lane r_many r_item r_market r_of r_newMarket r_newStart r_newOf r_newCoin r_state r_kept r_tape r_brings r_seen r_seenOut r_trace ++ R) := hD
  refine lv_aload_n hx hb dX11_farmers_5 rfl (lv_at hl 0 rfl) ?_
  refine lv_iload_n hx hb dX11_farmers_6 rfl (lv_at hl 1 rfl) ?_
  refine mx_callV (As := [.int k]) (rest := []) ⟨hx, hb, hml, hown, hts⟩ (mtX11_isKind l D cI cB cK cS Y R 0 m_status m_isThere m_kinds m_newKinds m_print m_low m_high m_lot m_taped m_latest m_length m_cursor m_token m_from m_till m_fault m_faultAt m_traced r_lane r_many r_item r_market r_of r_newMarket r_newStart r_newOf r_newCoin r_state r_kept r_tape r_brings r_seen r_seenOut r_trace k) (cwV 1 hts gX11_farmers_X11_isKind rfl rfl rfl (by decide +kernel) ⟨Nat.le_of_ble_eq_true rfl, Nat.le_of_ble_eq_true rfl⟩) pF0_ok trivial hK hP hD hS hA 0 rfl rfl rfl rfl hl.1 rfl (Nat.le_of_ble_eq_true rfl) dX11_farmers_7 ⟨Nat.le_refl _, Nat.le_refl _⟩ (fun u_1 H locs eu_1 hP hD hS => ?_)
  refine W.eq (g2 := F0 m 10 ls [.int u_1]) rfl ?_
  have hP : va_P D vwCl (mdW Y cI 0 m_status m_isThere m_kinds m_newKinds m_print m_low m_high m_lot m_taped m_latest m_length m_cursor m_token m_from m_till m_fault m_faultAt m_traced r_lane r_many r_item r_market r_of r_newMarket r_newStart r_newOf r_newCoin r_state r_kept r_tape r_brings r_seen r_seenOut r_trace ++ R) H := hP
  have hD : va_D A (mdW Y cI 0 m_status m_isThere m_kinds m_newKinds m_print m_low m_high m_lot m_taped m_latest m_length m_cursor m_token m_from m_till m_fault m_faultAt m_traced r_lane r_many r_item r_market r_of r_newMarket r_newStart r_newOf r_newCoin r_state r_kept r_tape r_brings r_seen r_seenOut r_trace ++ R) := hD
  refine lv_if_eq (tgt := 25) hx hb dX11_farmers_10 (by decide) (fun c_2 => ?_) (fun c_2 => ?_)
  · have d_2 := i_eq rfl (show (0 : Int32).toInt = 0 from by decide) c_2
    refine lv_ldc (v := (-1000001)) hx hb hown k78 dX11_farmers_25 ?_
    rw [hQm]
    exact mx_iret (u0 := sX11_farmers k w m_kinds m_print r_market r_of r_state) (rv := (fun u => some (.int u.1))) (w1 := (fun u => mdW Y cI u.2 m_status m_isThere m_kinds m_newKinds m_print m_low m_high m_lot m_taped m_latest m_length m_cursor m_token m_from m_till m_fault m_faultAt m_traced r_lane r_many r_item r_market r_of r_newMarket r_newStart r_newOf r_newCoin r_state r_kept r_tape r_brings r_seen r_seenOut r_trace ++ R)) (u := ((-1000001), 0)) hx hb hr hlocks hK hS (lt_eq eu_1 ((if_pos c_2).trans rfl)) hP hD rfl dX11_farmers_27
  · have d_2 := i_eqn rfl (show (0 : Int32).toInt = 0 from by decide) c_2
    have dt_2 := sX11_isKind_t hkd0 eu_1 c_2
    refine lv_iload_n hx hb dX11_farmers_13 rfl (lv_at hl 2 rfl) ?_
    refine lv_i2l (v := w.toInt64) hx hb dX11_farmers_14 rfl ?_
    refine lv_lconst (v := 0) hx hb dX11_farmers_15 (by decide) ?_
    refine lv_ldc2 (v := 7) hx hb hown k66 dX11_farmers_16 ?_
    refine mx_callS (As := [.long w.toInt64, .long 0, .long 7]) (rest := []) ⟨hx, hb, hml, hown, hts⟩ (mtX11_in l D cI cB cK cS (mdW Y cI 0 m_status m_isThere m_kinds m_newKinds m_print m_low m_high m_lot m_taped m_latest m_length m_cursor m_token m_from m_till m_fault m_faultAt m_traced r_lane r_many r_item r_market r_of r_newMarket r_newStart r_newOf r_newCoin r_state r_kept r_tape r_brings r_seen r_seenOut r_trace ++ R) w.toInt64 0 7) (va_cwS 3 hts gX11_farmers_X11_in rfl rfl rfl (by decide +kernel) ⟨Nat.le_of_ble_eq_true rfl, Nat.le_of_ble_eq_true rfl⟩) pF0_ok trivial hK hP hD hS hA rfl hl.1 rfl (Nat.le_of_ble_eq_true rfl) dX11_farmers_19 ⟨Nat.le_refl _, Nat.le_refl _⟩ (fun u_3 H locs eu_3 hP hD hS => ?_)
    refine W.eq (g2 := F0 m 22 ls [.int u_3]) rfl ?_
    have hP : va_P D vwCl (mdW Y cI 0 m_status m_isThere m_kinds m_newKinds m_print m_low m_high m_lot m_taped m_latest m_length m_cursor m_token m_from m_till m_fault m_faultAt m_traced r_lane r_many r_item r_market r_of r_newMarket r_newStart r_newOf r_newCoin r_state r_kept r_tape r_brings r_seen r_seenOut r_trace ++ R) H := hP
    have hD : va_D A (mdW Y cI 0 m_status m_isThere m_kinds m_newKinds m_print m_low m_high m_lot m_taped m_latest m_length m_cursor m_token m_from m_till m_fault m_faultAt m_traced r_lane r_many r_item r_market r_of r_newMarket r_newStart r_newOf r_newCoin r_state r_kept r_tape r_brings r_seen r_seenOut r_trace ++ R) := hD
    refine lv_if_ne (tgt := 28) hx hb dX11_farmers_22 (by decide) (fun c_4 => ?_) (fun c_4 => ?_)
    · have d_4 := i_eqn rfl (show (0 : Int32).toInt = 0 from by decide) c_4
      have dt_4 := sX11_in_t ((Int32.toInt_toInt64 _).trans rfl) (show (0 : Int64).toInt = 0 from by decide) (show (7 : Int64).toInt = 7 from by decide) eu_3 c_4
      refine lv_iload_n hx hb dX11_farmers_28 rfl (lv_at hl 2 rfl) ?_
      refine lv_iconst (v := 5) hx hb dX11_farmers_29 (by decide) ?_
      refine lv_icmp_le (tgt := 60) hx hb dX11_farmers_30 (by decide) (fun c_5 => ?_) (fun c_5 => ?_)
      · have d_5 := i_le rfl (show (5 : Int32).toInt = 5 from by decide) c_5
        refine lv_iload_n hx hb dX11_farmers_60 rfl (lv_at hl 2 rfl) ?_
        refine lv_iconst (v := 4) hx hb dX11_farmers_61 (by decide) ?_
        refine lv_icmp_ge (tgt := 76) hx hb dX11_farmers_62 (by decide) (fun c_6 => ?_) (fun c_6 => ?_)
        · have d_6 := i_le (show (4 : Int32).toInt = 4 from by decide) rfl c_6
          refine lv_aload_n hx hb dX11_farmers_76 rfl (lv_at hl 0 rfl) ?_
          refine va_get (D := D) (ci := 9) (v := .ref (Y 14)) (C := RX11) (T := TX11) (N := 35) hx hb hts iX11 hown hK hP 0 rfl rfl 14 (by decide) k37 (fun _ h9 => h9) rfl dX11_farmers_77 ?_
          refine lv_iload_n hx hb dX11_farmers_80 rfl (lv_at hl 2 rfl) ?_
          refine lv_iconst (v := 4) hx hb dX11_farmers_81 (by decide) ?_
          have J_7 : ∀ (y_7 : Int32) (H : Heap) (locs : List Loc) (ls : Array Slot), y_7 = (if w = 4 then (7) else (12)) → va_P D vwCl (mdW Y cI 0 m_status m_isThere m_kinds m_newKinds m_print m_low m_high m_lot m_taped m_latest m_length m_cursor m_token m_from m_till m_fault m_faultAt m_traced r_lane r_many r_item r_market r_of r_newMarket r_newStart r_newOf r_newCoin r_state r_kept r_tape r_brings r_seen r_seenOut r_trace ++ R) H → va_D A (mdW Y cI 0 m_status m_isThere m_kinds m_newKinds m_print m_low m_high m_lot m_taped m_latest m_length m_cursor m_token m_from m_till m_fault m_faultAt m_traced r_lane r_many r_item r_market r_of r_newMarket r_newStart r_newOf r_newCoin r_state r_kept r_tape r_brings r_seen r_seenOut r_trace ++ R) → va_S A s.heap H locs → lv_has ls 4 [(1, .int k)] → W p l e (rmX 6) s m ([.ref (Y 0), .int k, .int w] : List Value).toArray below meth c H locs 0 0 Qm (F0 m 92 ls [.int y_7, .ref (Y 14)]) := by
            intro y_7 H locs ls ey_7 hP hD hS hl
            have dy : y_7.toInt = 7 ∨ y_7.toInt = 12 := by rw [ey_7]; split <;> decide
            refine lv_iload_n hx hb dX11_farmers_92 rfl (lv_at hl 0 rfl) ?_
            refine lv_iadd hx hb dX11_farmers_93 ?_
            have q_9 : vp_in (y_7 + k) 17 := vp_in_iff.mpr (by rw [show (y_7 + k).toInt = (y_7.toInt + k.toInt) from (i_addv rfl rfl (by omega) (by omega))]; constructor <;> omega)
            refine va_iald hx hb hK hP 10 0 rfl rfl q_9 dX11_farmers_94 ?_
            rw [hQm]
            exact mx_iret (u0 := sX11_farmers k w m_kinds m_print r_market r_of r_state) (rv := (fun u => some (.int u.1))) (w1 := (fun u => mdW Y cI u.2 m_status m_isThere m_kinds m_newKinds m_print m_low m_high m_lot m_taped m_latest m_length m_cursor m_token m_from m_till m_fault m_faultAt m_traced r_lane r_many r_item r_market r_of r_newMarket r_newStart r_newOf r_newCoin r_state r_kept r_tape r_brings r_seen r_seenOut r_trace ++ R)) (u := ((r_state (y_7 + k).toNatClampNeg), 0)) hx hb hr hlocks hK hS (lt_eq eu_1 ((if_neg c_2).trans (lt_eq eu_3 ((if_neg c_4).trans ((if_pos c_5).trans ((if_pos c_6).trans (lt_eq ey_7 rfl))))))) hP hD rfl dX11_farmers_95
          refine lv_icmp_ne (tgt := 90) hx hb dX11_farmers_82 (by decide) (fun c_8 => ?_) (fun c_8 => ?_)
          · have d_8 := i_eqn rfl (show (4 : Int32).toInt = 4 from by decide) c_8
            refine lv_bipush (v := 12) hx hb dX11_farmers_90 (by decide) ?_
            exact J_7 12 H locs ls (Eq.symm ((if_neg c_8).trans rfl)) hP hD hS (lv_sub hl [1] rfl)
          · have d_8 := i_eq rfl (show (4 : Int32).toInt = 4 from by decide) c_8
            refine lv_bipush (v := 7) hx hb dX11_farmers_85 (by decide) ?_
            refine lv_goto (tgt := 92) hx hb dX11_farmers_87 (by decide) ?_
            exact J_7 7 H locs ls (Eq.symm ((if_pos c_8).trans rfl)) hP hD hS (lv_sub hl [1] rfl)
        · have d_6 := i_len (show (4 : Int32).toInt = 4 from by decide) rfl c_6
          refine lv_aload_n hx hb dX11_farmers_65 rfl (lv_at hl 0 rfl) ?_
          refine lv_iload_n hx hb dX11_farmers_66 rfl (lv_at hl 1 rfl) ?_
          refine lv_iconst (v := 2) hx hb dX11_farmers_67 (by decide) ?_
          refine lv_iload_n hx hb dX11_farmers_68 rfl (lv_at hl 2 rfl) ?_
          refine lv_iadd hx hb dX11_farmers_69 ?_
          refine mx_callV (As := [.int k, .int (2 + w)]) (rest := []) ⟨hx, hb, hml, hown, hts⟩ (mtX11_told l D cI cB cK cS Y R 0 m_status m_isThere m_kinds m_newKinds m_print m_low m_high m_lot m_taped m_latest m_length m_cursor m_token m_from m_till m_fault m_faultAt m_traced r_lane r_many r_item r_market r_of r_newMarket r_newStart r_newOf r_newCoin r_state r_kept r_tape r_brings r_seen r_seenOut r_trace k (2 + w) (vp_in_iff.mpr (by rw [show (6 * k + (2 + w)).toInt = ((6 * k.toInt) + (2 + w.toInt)) from (i_addv (i_mulv (show (6 : Int32).toInt = 6 from by decide) rfl (by omega) (by omega)) (i_addv (show (2 : Int32).toInt = 2 from by decide) rfl (by omega) (by omega)) (by omega) (by omega))]; constructor <;> omega))) (cwV 2 hts gX11_farmers_X11_told rfl rfl rfl (by decide +kernel) ⟨Nat.le_of_ble_eq_true rfl, Nat.le_of_ble_eq_true rfl⟩) pF0_ok trivial hK hP hD hS hA 0 rfl rfl rfl rfl hl.1 rfl (Nat.le_of_ble_eq_true rfl) dX11_farmers_70 ⟨Nat.le_refl _, Nat.le_refl _⟩ (fun u_10 H locs eu_10 hP hD hS => ?_)
          refine W.eq (g2 := F0 m 73 ls [.int u_10]) rfl ?_
          have hP : va_P D vwCl (mdW Y cI 0 m_status m_isThere m_kinds m_newKinds m_print m_low m_high m_lot m_taped m_latest m_length m_cursor m_token m_from m_till m_fault m_faultAt m_traced r_lane r_many r_item r_market r_of r_newMarket r_newStart r_newOf r_newCoin r_state r_kept r_tape r_brings r_seen r_seenOut r_trace ++ R) H := hP
          have hD : va_D A (mdW Y cI 0 m_status m_isThere m_kinds m_newKinds m_print m_low m_high m_lot m_taped m_latest m_length m_cursor m_token m_from m_till m_fault m_faultAt m_traced r_lane r_many r_item r_market r_of r_newMarket r_newStart r_newOf r_newCoin r_state r_kept r_tape r_brings r_seen r_seenOut r_trace ++ R) := hD
          refine lv_goto (tgt := 95) hx hb dX11_farmers_73 (by decide) ?_
          rw [hQm]
          exact mx_iret (u0 := sX11_farmers k w m_kinds m_print r_market r_of r_state) (rv := (fun u => some (.int u.1))) (w1 := (fun u => mdW Y cI u.2 m_status m_isThere m_kinds m_newKinds m_print m_low m_high m_lot m_taped m_latest m_length m_cursor m_token m_from m_till m_fault m_faultAt m_traced r_lane r_many r_item r_market r_of r_newMarket r_newStart r_newOf r_newCoin r_state r_kept r_tape r_brings r_seen r_seenOut r_trace ++ R)) (u := (u_10, 0)) hx hb hr hlocks hK hS (lt_eq eu_1 ((if_neg c_2).trans (lt_eq eu_3 ((if_neg c_4).trans ((if_pos c_5).trans ((if_neg c_6).trans (lt_eq eu_10 rfl))))))) hP hD rfl dX11_farmers_95
      · have d_5 := i_len rfl (show (5 : Int32).toInt = 5 from by decide) c_5
        refine lv_aload_n hx hb dX11_farmers_33 rfl (lv_at hl 0 rfl) ?_
        refine lv_iload_n hx hb dX11_farmers_34 rfl (lv_at hl 1 rfl) ?_
        refine lv_aload_n hx hb dX11_farmers_35 rfl (lv_at hl 0 rfl) ?_
        refine mx_callV (As := []) (rest := [.int k, .ref (Y 0)]) ⟨hx, hb, hml, hown, hts⟩ (mtX11_wiseGuess l D cI cB cK cS Y R 0 m_status m_isThere m_kinds m_newKinds m_print m_low m_high m_lot m_taped m_latest m_length m_cursor m_token m_from m_till m_fault m_faultAt m_traced r_lane r_many r_item r_market r_of r_newMarket r_newStart r_newOf r_newCoin r_state r_kept r_tape r_brings r_seen r_seenOut r_trace (by omega) (hkt (by omega))) (cwV 0 hts gX11_farmers_X11_wiseGuess rfl rfl rfl (by decide +kernel) ⟨Nat.le_of_ble_eq_true rfl, Nat.le_of_ble_eq_true rfl⟩) pF0_ok trivial hK hP hD hS hA 0 rfl rfl rfl rfl hl.1 rfl (Nat.le_of_ble_eq_true rfl) dX11_farmers_36 ⟨Nat.le_refl _, Nat.le_refl _⟩ (fun u_11 H locs eu_11 hP hD hS => ?_)
        refine W.eq (g2 := F0 m 39 ls [.int u_11, .int k, .ref (Y 0)]) rfl ?_
        have hP : va_P D vwCl (mdW Y cI 0 m_status m_isThere m_kinds m_newKinds m_print m_low m_high m_lot m_taped m_latest m_length m_cursor m_token m_from m_till m_fault m_faultAt m_traced r_lane r_many r_item r_market r_of r_newMarket r_newStart r_newOf r_newCoin r_state r_kept r_tape r_brings r_seen r_seenOut r_trace ++ R) H := hP
        have hD : va_D A (mdW Y cI 0 m_status m_isThere m_kinds m_newKinds m_print m_low m_high m_lot m_taped m_latest m_length m_cursor m_token m_from m_till m_fault m_faultAt m_traced r_lane r_many r_item r_market r_of r_newMarket r_newStart r_newOf r_newCoin r_state r_kept r_tape r_brings r_seen r_seenOut r_trace ++ R) := hD
        refine mx_callV (As := [.int k, .int u_11]) (rest := []) ⟨hx, hb, hml, hown, hts⟩ (mtX11_guessOf l D cI cB cK cS Y R 0 m_status m_isThere m_kinds m_newKinds m_print m_low m_high m_lot m_taped m_latest m_length m_cursor m_token m_from m_till m_fault m_faultAt m_traced r_lane r_many r_item r_market r_of r_newMarket r_newStart r_newOf r_newCoin r_state r_kept r_tape r_brings r_seen r_seenOut r_trace k u_11 (by omega) (by omega)) (cwV 2 hts gX11_farmers_X11_guessOf rfl rfl rfl (by decide +kernel) ⟨Nat.le_of_ble_eq_true rfl, Nat.le_of_ble_eq_true rfl⟩) pF0_ok trivial hK hP hD hS hA 0 rfl rfl rfl rfl hl.1 rfl (Nat.le_of_ble_eq_true rfl) dX11_farmers_39 ⟨Nat.le_refl _, Nat.le_refl _⟩ (fun u_12 H locs eu_12 hP hD hS => ?_)
        refine W.eq (g2 := F0 m 42 ls [.int u_12]) rfl ?_
        have hP : va_P D vwCl (mdW Y cI 0 m_status m_isThere m_kinds m_newKinds m_print m_low m_high m_lot m_taped m_latest m_length m_cursor m_token m_from m_till m_fault m_faultAt m_traced r_lane r_many r_item r_market r_of r_newMarket r_newStart r_newOf r_newCoin r_state r_kept r_tape r_brings r_seen r_seenOut r_trace ++ R) H := hP
        have hD : va_D A (mdW Y cI 0 m_status m_isThere m_kinds m_newKinds m_print m_low m_high m_lot m_taped m_latest m_length m_cursor m_token m_from m_till m_fault m_faultAt m_traced r_lane r_many r_item r_market r_of r_newMarket r_newStart r_newOf r_newCoin r_state r_kept r_tape r_brings r_seen r_seenOut r_trace ++ R) := hD
        refine lv_istore_n (lv' := [(3, .int u_12), (0, .ref (Y 0)), (1, .int k), (2, .int w)]) hx hb dX11_farmers_42 rfl hl (by decide) rfl (fun ls hl => ?_)
        refine lv_iload_n hx hb dX11_farmers_43 rfl (lv_at hl 3 rfl) ?_
        refine lv_bipush (v := 6) hx hb dX11_farmers_44 (by decide) ?_
        refine lv_icmp_ne (tgt := 53) hx hb dX11_farmers_46 (by decide) (fun c_13 => ?_) (fun c_13 => ?_)
        · have d_13 := i_eqn rfl (show (6 : Int32).toInt = 6 from by decide) c_13
          refine lv_aload_n hx hb dX11_farmers_53 rfl (lv_at hl 1 rfl) ?_
          refine lv_iload_n hx hb dX11_farmers_54 rfl (lv_at hl 2 rfl) ?_
          refine lv_iload_n hx hb dX11_farmers_55 rfl (lv_at hl 0 rfl) ?_
          refine mx_callV (As := [.int k, .int u_12]) (rest := []) ⟨hx, hb, hml, hown, hts⟩ (mtX11_pigsBy l D cI cB cK cS Y R 0 m_status m_isThere m_kinds m_newKinds m_print m_low m_high m_lot m_taped m_latest m_length m_cursor m_token m_from m_till m_fault m_faultAt m_traced r_lane r_many r_item r_market r_of r_newMarket r_newStart r_newOf r_newCoin r_state r_kept r_tape r_brings r_seen r_seenOut r_trace k u_12 (by omega) (by omega)) (cwV 2 hts gX11_farmers_X11_pigsBy rfl rfl rfl (by decide +kernel) ⟨Nat.le_of_ble_eq_true rfl, Nat.le_of_ble_eq_true rfl⟩) pF0_ok trivial hK hP hD hS hA 0 rfl rfl rfl rfl hl.1 rfl (Nat.le_of_ble_eq_true rfl) dX11_farmers_56 ⟨Nat.le_refl _, Nat.le_refl _⟩ (fun u_14 H locs eu_14 hP hD hS => ?_)
          refine W.eq (g2 := F0 m 59 ls [.int u_14]) rfl ?_
          have hP : va_P D vwCl (mdW Y cI 0 m_status m_isThere m_kinds m_newKinds m_print m_low m_high m_lot m_taped m_latest m_length m_cursor m_token m_from m_till m_fault m_faultAt m_traced r_lane r_many r_item r_market r_of r_newMarket r_newStart r_newOf r_newCoin r_state r_kept r_tape r_brings r_seen r_seenOut r_trace ++ R) H := hP
          have hD : va_D A (mdW Y cI 0 m_status m_isThere m_kinds m_newKinds m_print m_low m_high m_lot m_taped m_latest m_length m_cursor m_token m_from m_till m_fault m_faultAt m_traced r_lane r_many r_item r_market r_of r_newMarket r_newStart r_newOf r_newCoin r_state r_kept r_tape r_brings r_seen r_seenOut r_trace ++ R) := hD
          rw [hQm]
          exact mx_iret (u0 := sX11_farmers k w m_kinds m_print r_market r_of r_state) (rv := (fun u => some (.int u.1))) (w1 := (fun u => mdW Y cI u.2 m_status m_isThere m_kinds m_newKinds m_print m_low m_high m_lot m_taped m_latest m_length m_cursor m_token m_from m_till m_fault m_faultAt m_traced r_lane r_many r_item r_market r_of r_newMarket r_newStart r_newOf r_newCoin r_state r_kept r_tape r_brings r_seen r_seenOut r_trace ++ R)) (u := (u_14, 0)) hx hb hr hlocks hK hS (lt_eq eu_1 ((if_neg c_2).trans (lt_eq eu_3 ((if_neg c_4).trans ((if_neg c_5).trans (lt_eq eu_11 (lt_eq eu_12 ((if_neg c_13).trans (lt_eq eu_14 rfl))))))))) hP hD rfl dX11_farmers_59
        · have d_13 := i_eq rfl (show (6 : Int32).toInt = 6 from by decide) c_13
          refine lv_iload_n hx hb dX11_farmers_49 rfl (lv_at hl 0 rfl) ?_
          refine lv_goto (tgt := 59) hx hb dX11_farmers_50 (by decide) ?_
          rw [hQm]
          exact mx_iret (u0 := sX11_farmers k w m_kinds m_print r_market r_of r_state) (rv := (fun u => some (.int u.1))) (w1 := (fun u => mdW Y cI u.2 m_status m_isThere m_kinds m_newKinds m_print m_low m_high m_lot m_taped m_latest m_length m_cursor m_token m_from m_till m_fault m_faultAt m_traced r_lane r_many r_item r_market r_of r_newMarket r_newStart r_newOf r_newCoin r_state r_kept r_tape r_brings r_seen r_seenOut r_trace ++ R)) (u := (u_12, 0)) hx hb hr hlocks hK hS (lt_eq eu_1 ((if_neg c_2).trans (lt_eq eu_3 ((if_neg c_4).trans ((if_neg c_5).trans (lt_eq eu_11 (lt_eq eu_12 ((if_pos c_13).trans rfl)))))))) hP hD rfl dX11_farmers_59
    · have d_4 := i_eq rfl (show (0 : Int32).toInt = 0 from by decide) c_4
      refine lv_ldc (v := (-1000001)) hx hb hown k78 dX11_farmers_25 ?_
      rw [hQm]
      exact mx_iret (u0 := sX11_farmers k w m_kinds m_print r_market r_of r_state) (rv := (fun u => some (.int u.1))) (w1 := (fun u => mdW Y cI u.2 m_status m_isThere m_kinds m_newKinds m_print m_low m_high m_lot m_taped m_latest m_length m_cursor m_token m_from m_till m_fault m_faultAt m_traced r_lane r_many r_item r_market r_of r_newMarket r_newStart r_newOf r_newCoin r_state r_kept r_tape r_brings r_seen r_seenOut r_trace ++ R)) (u := ((-1000001), 0)) hx hb hr hlocks hK hS (lt_eq eu_1 ((if_neg c_2).trans (lt_eq eu_3 ((if_pos c_4).trans rfl)))) hP hD rfl dX11_farmers_27

def sX11_print (v : Int32) (m_isThere : Int32) (m_print : Int32) : Int32 × (Int32) × (Int32) := lt (sX11_in v.toInt64 0 99) (fun u_1 : Int32 => if u_1 = 0 then (((-1000001), 0, m_print)) else (if m_isThere = 0 then (((-1000002), 0, m_print)) else ((m_print, 0, v))))
set_option maxHeartbeats 4000000 in
set_option maxRecDepth 100000 in
theorem mtX11_print (l : Launch) (D : va_G) (cI cB cK cS : ClassId) (Y : Nat → Nat) (R : va_W) (m_thrown : Int32) (m_status : Int32) (m_isThere : Int32) (m_kinds : Int32) (m_newKinds : Int32) (m_print : Int32) (m_low : Int32) (m_high : Int32) (m_lot : Int32) (m_taped : Int32) (m_latest : Int32) (m_length : Int32) (m_cursor : Int32) (m_token : Int32) (m_from : Int32) (m_till : Int32) (m_fault : Int32) (m_faultAt : Int32) (m_traced : Int32) (r_lane : Nat → Int32) (r_many : Nat → Int32) (r_item : Nat → Int32) (r_market : Nat → Int32) (r_of : Nat → Int32) (r_newMarket : Nat → Int32) (r_newStart : Nat → Int32) (r_newOf : Nat → Int32) (r_newCoin : Nat → Int32) (r_state : Nat → Int32) (r_kept : Nat → Int32) (r_tape : Nat → Int32) (r_brings : Nat → Int32) (r_seen : Nat → Int32) (r_seenOut : Nat → Int32) (r_trace : Nat → Int32) (v : Int32) : MX l yX11_print wsX11_print (rmX 2) D (tyX cI cB cK cS) pF0 (mdW Y cI m_thrown m_status m_isThere m_kinds m_newKinds m_print m_low m_high m_lot m_taped m_latest m_length m_cursor m_token m_from m_till m_fault m_faultAt m_traced r_lane r_many r_item r_market r_of r_newMarket r_newStart r_newOf r_newCoin r_state r_kept r_tape r_brings r_seen r_seenOut r_trace ++ R) [.ref (Y 0), .int v] (sX11_print v m_isThere m_print) (fun u => some (.int u.1)) (fun u => mdW Y cI u.2.1 m_status m_isThere m_kinds m_newKinds u.2.2 m_low m_high m_lot m_taped m_latest m_length m_cursor m_token m_from m_till m_fault m_faultAt m_traced r_lane r_many r_item r_market r_of r_newMarket r_newStart r_newOf r_newCoin r_state r_kept r_tape r_brings r_seen r_seenOut r_trace ++ R) := by
  refine mx_intro (cc := cX11_print) (maxL := 3) (ret := (some .int)) (by decide) rfl (Nat.le_of_ble_eq_true rfl) ?_
  intro p e s m below meth c A ls H locs Qm hQm hx hb hr hml hts hown hlocks hA hS hP hK hD hF hl
  have hown : s.vm.findClass RX11 = some m.cls := hown
  have hl : lv_has ls 3 [(0, .ref (Y 0)), (1, .int v)] := hl
  have k58 := hts (.fieldLink RX11 58 "PigRoundsModel" "thrown" "I") (by decide +kernel)
  have k229 := hts (.constantLong RX11 229 (99)) (by decide +kernel)
  have k176 := hts (.fieldLink RX11 176 "PigRoundsModel" "isThere" "Z") (by decide +kernel)
  have k185 := hts (.fieldLink RX11 185 "PigRoundsModel" "print" "I") (by decide +kernel)
  have k231 := hts (.constant RX11 231 (-1000002)) (by decide +kernel)
  have k78 := hts (.constant RX11 78 (-1000001)) (by decide +kernel)
  have iX11 : ∀ w ∈ u_ws RX11 TX11 35, w ∈ wsX11_print := by decide +kernel
  refine lv_aload_n hx hb dX11_print_0 rfl (lv_at hl 0 rfl) ?_
  refine lv_iconst (v := 0) hx hb dX11_print_1 (by decide) ?_
  refine va_put (D := D) (ci := 9) (v := .int 0) (ty := .int) (C := RX11) (T := TX11) (N := 35) hx hb hts iX11 tyX11 tyX11_ok nmX11 hown hK hP hD hS 0 rfl rfl 0 (by decide) k58 (fun _ h9 => h9) rfl (by decide +kernel) rfl rfl (Nat.le_of_ble_eq_true rfl) dX11_print_2 (fun H locs hP hD hS => ?_)
  have hP : va_P D vwCl (mdW Y cI 0 m_status m_isThere m_kinds m_newKinds m_print m_low m_high m_lot m_taped m_latest m_length m_cursor m_token m_from m_till m_fault m_faultAt m_traced r_lane r_many r_item r_market r_of r_newMarket r_newStart r_newOf r_newCoin r_state r_kept r_tape r_brings r_seen r_seenOut r_trace ++ R) H := hP
  have hD : va_D A (mdW Y cI 0 m_status m_isThere m_kinds m_newKinds m_print m_low m_high m_lot m_taped m_latest m_length m_cursor m_token m_from m_till m_fault m_faultAt m_traced r_lane r_many r_item r_market r_of r_newMarket r_newStart r_newOf r_newCoin r_state r_kept r_tape r_brings r_seen r_seenOut r_trace ++ R) := hD
  refine lv_iload_n hx hb dX11_print_5 rfl (lv_at hl 1 rfl) ?_
  refine lv_i2l (v := v.toInt64) hx hb dX11_print_6 rfl ?_
  refine lv_lconst (v := 0) hx hb dX11_print_7 (by decide) ?_
  refine lv_ldc2 (v := 99) hx hb hown k229 dX11_print_8 ?_
  refine mx_callS (As := [.long v.toInt64, .long 0, .long 99]) (rest := []) ⟨hx, hb, hml, hown, hts⟩ (mtX11_in l D cI cB cK cS (mdW Y cI 0 m_status m_isThere m_kinds m_newKinds m_print m_low m_high m_lot m_taped m_latest m_length m_cursor m_token m_from m_till m_fault m_faultAt m_traced r_lane r_many r_item r_market r_of r_newMarket r_newStart r_newOf r_newCoin r_state r_kept r_tape r_brings r_seen r_seenOut r_trace ++ R) v.toInt64 0 99) (va_cwS 3 hts gX11_print_X11_in rfl rfl rfl (by decide +kernel) ⟨Nat.le_of_ble_eq_true rfl, Nat.le_of_ble_eq_true rfl⟩) pF0_ok trivial hK hP hD hS hA rfl hl.1 rfl (Nat.le_of_ble_eq_true rfl) dX11_print_11 ⟨Nat.le_refl _, Nat.le_refl _⟩ (fun u_1 H locs eu_1 hP hD hS => ?_)
  refine W.eq (g2 := F0 m 14 ls [.int u_1]) rfl ?_
  have hP : va_P D vwCl (mdW Y cI 0 m_status m_isThere m_kinds m_newKinds m_print m_low m_high m_lot m_taped m_latest m_length m_cursor m_token m_from m_till m_fault m_faultAt m_traced r_lane r_many r_item r_market r_of r_newMarket r_newStart r_newOf r_newCoin r_state r_kept r_tape r_brings r_seen r_seenOut r_trace ++ R) H := hP
  have hD : va_D A (mdW Y cI 0 m_status m_isThere m_kinds m_newKinds m_print m_low m_high m_lot m_taped m_latest m_length m_cursor m_token m_from m_till m_fault m_faultAt m_traced r_lane r_many r_item r_market r_of r_newMarket r_newStart r_newOf r_newCoin r_state r_kept r_tape r_brings r_seen r_seenOut r_trace ++ R) := hD
  refine lv_if_ne (tgt := 20) hx hb dX11_print_14 (by decide) (fun c_2 => ?_) (fun c_2 => ?_)
  · have d_2 := i_eqn rfl (show (0 : Int32).toInt = 0 from by decide) c_2
    have dt_2 := sX11_in_t ((Int32.toInt_toInt64 _).trans rfl) (show (0 : Int64).toInt = 0 from by decide) (show (99 : Int64).toInt = 99 from by decide) eu_1 c_2
    refine lv_aload_n hx hb dX11_print_20 rfl (lv_at hl 0 rfl) ?_
    refine va_get (D := D) (ci := 9) (v := .int m_isThere) (C := RX11) (T := TX11) (N := 35) hx hb hts iX11 hown hK hP 0 rfl rfl 5 (by decide) k176 (fun _ h9 => h9) rfl dX11_print_21 ?_
    refine lv_if_ne (tgt := 30) hx hb dX11_print_24 (by decide) (fun c_3 => ?_) (fun c_3 => ?_)
    · have d_3 := i_eqn rfl (show (0 : Int32).toInt = 0 from by decide) c_3
      refine lv_aload_n hx hb dX11_print_30 rfl (lv_at hl 0 rfl) ?_
      refine va_get (D := D) (ci := 9) (v := .int m_print) (C := RX11) (T := TX11) (N := 35) hx hb hts iX11 hown hK hP 0 rfl rfl 16 (by decide) k185 (fun _ h9 => h9) rfl dX11_print_31 ?_
      refine lv_istore_n (lv' := [(2, .int m_print), (0, .ref (Y 0)), (1, .int v)]) hx hb dX11_print_34 rfl hl (by decide) rfl (fun ls hl => ?_)
      refine lv_aload_n hx hb dX11_print_35 rfl (lv_at hl 1 rfl) ?_
      refine lv_iload_n hx hb dX11_print_36 rfl (lv_at hl 2 rfl) ?_
      refine va_put (D := D) (ci := 9) (v := .int v) (ty := .int) (C := RX11) (T := TX11) (N := 35) hx hb hts iX11 tyX11 tyX11_ok nmX11 hown hK hP hD hS 0 rfl rfl 16 (by decide) k185 (fun _ h9 => h9) rfl (by decide +kernel) rfl rfl (Nat.le_of_ble_eq_true rfl) dX11_print_37 (fun H locs hP hD hS => ?_)
      have hP : va_P D vwCl (mdW Y cI 0 m_status m_isThere m_kinds m_newKinds v m_low m_high m_lot m_taped m_latest m_length m_cursor m_token m_from m_till m_fault m_faultAt m_traced r_lane r_many r_item r_market r_of r_newMarket r_newStart r_newOf r_newCoin r_state r_kept r_tape r_brings r_seen r_seenOut r_trace ++ R) H := hP
      have hD : va_D A (mdW Y cI 0 m_status m_isThere m_kinds m_newKinds v m_low m_high m_lot m_taped m_latest m_length m_cursor m_token m_from m_till m_fault m_faultAt m_traced r_lane r_many r_item r_market r_of r_newMarket r_newStart r_newOf r_newCoin r_state r_kept r_tape r_brings r_seen r_seenOut r_trace ++ R) := hD
      refine lv_iload_n hx hb dX11_print_40 rfl (lv_at hl 0 rfl) ?_
      rw [hQm]
      exact mx_iret (u0 := sX11_print v m_isThere m_print) (rv := (fun u => some (.int u.1))) (w1 := (fun u => mdW Y cI u.2.1 m_status m_isThere m_kinds m_newKinds u.2.2 m_low m_high m_lot m_taped m_latest m_length m_cursor m_token m_from m_till m_fault m_faultAt m_traced r_lane r_many r_item r_market r_of r_newMarket r_newStart r_newOf r_newCoin r_state r_kept r_tape r_brings r_seen r_seenOut r_trace ++ R)) (u := (m_print, 0, v)) hx hb hr hlocks hK hS (lt_eq eu_1 ((if_neg c_2).trans ((if_neg c_3).trans rfl))) hP hD rfl dX11_print_41
    · have d_3 := i_eq rfl (show (0 : Int32).toInt = 0 from by decide) c_3
      refine lv_ldc (v := (-1000002)) hx hb hown k231 dX11_print_27 ?_
      rw [hQm]
      exact mx_iret (u0 := sX11_print v m_isThere m_print) (rv := (fun u => some (.int u.1))) (w1 := (fun u => mdW Y cI u.2.1 m_status m_isThere m_kinds m_newKinds u.2.2 m_low m_high m_lot m_taped m_latest m_length m_cursor m_token m_from m_till m_fault m_faultAt m_traced r_lane r_many r_item r_market r_of r_newMarket r_newStart r_newOf r_newCoin r_state r_kept r_tape r_brings r_seen r_seenOut r_trace ++ R)) (u := ((-1000002), 0, m_print)) hx hb hr hlocks hK hS (lt_eq eu_1 ((if_neg c_2).trans ((if_pos c_3).trans rfl))) hP hD rfl dX11_print_29
  · have d_2 := i_eq rfl (show (0 : Int32).toInt = 0 from by decide) c_2
    refine lv_ldc (v := (-1000001)) hx hb hown k78 dX11_print_17 ?_
    rw [hQm]
    exact mx_iret (u0 := sX11_print v m_isThere m_print) (rv := (fun u => some (.int u.1))) (w1 := (fun u => mdW Y cI u.2.1 m_status m_isThere m_kinds m_newKinds u.2.2 m_low m_high m_lot m_taped m_latest m_length m_cursor m_token m_from m_till m_fault m_faultAt m_traced r_lane r_many r_item r_market r_of r_newMarket r_newStart r_newOf r_newCoin r_state r_kept r_tape r_brings r_seen r_seenOut r_trace ++ R)) (u := ((-1000001), 0, m_print)) hx hb hr hlocks hK hS (lt_eq eu_1 ((if_pos c_2).trans rfl)) hP hD rfl dX11_print_19

def sX11_ministry (a : Int32) (b : Int32) (nn : Int32) (m_isThere : Int32) (m_low : Int32) (m_high : Int32) (m_lot : Int32) : Int32 × (Int32) × (Int32) × (Int32) × (Int32) := lt (sX11_in a.toInt64 0 99) (fun u_1 : Int32 => if u_1 = 0 then (((-1000001), 0, m_low, m_high, m_lot)) else (lt (sX11_in b.toInt64 a.toInt64 99) (fun u_3 : Int32 => if u_3 = 0 then (((-1000001), 0, m_low, m_high, m_lot)) else (lt (sX11_in nn.toInt64 0 99) (fun u_5 : Int32 => if u_5 = 0 then (((-1000001), 0, m_low, m_high, m_lot)) else (if m_isThere = 0 then (((-1000002), 0, m_low, m_high, m_lot)) else ((1, 0, a, b, nn))))))))
set_option maxHeartbeats 4000000 in
set_option maxRecDepth 100000 in
theorem mtX11_ministry (l : Launch) (D : va_G) (cI cB cK cS : ClassId) (Y : Nat → Nat) (R : va_W) (m_thrown : Int32) (m_status : Int32) (m_isThere : Int32) (m_kinds : Int32) (m_newKinds : Int32) (m_print : Int32) (m_low : Int32) (m_high : Int32) (m_lot : Int32) (m_taped : Int32) (m_latest : Int32) (m_length : Int32) (m_cursor : Int32) (m_token : Int32) (m_from : Int32) (m_till : Int32) (m_fault : Int32) (m_faultAt : Int32) (m_traced : Int32) (r_lane : Nat → Int32) (r_many : Nat → Int32) (r_item : Nat → Int32) (r_market : Nat → Int32) (r_of : Nat → Int32) (r_newMarket : Nat → Int32) (r_newStart : Nat → Int32) (r_newOf : Nat → Int32) (r_newCoin : Nat → Int32) (r_state : Nat → Int32) (r_kept : Nat → Int32) (r_tape : Nat → Int32) (r_brings : Nat → Int32) (r_seen : Nat → Int32) (r_seenOut : Nat → Int32) (r_trace : Nat → Int32) (a : Int32) (b : Int32) (nn : Int32) : MX l yX11_ministry wsX11_ministry (rmX 2) D (tyX cI cB cK cS) pF0 (mdW Y cI m_thrown m_status m_isThere m_kinds m_newKinds m_print m_low m_high m_lot m_taped m_latest m_length m_cursor m_token m_from m_till m_fault m_faultAt m_traced r_lane r_many r_item r_market r_of r_newMarket r_newStart r_newOf r_newCoin r_state r_kept r_tape r_brings r_seen r_seenOut r_trace ++ R) [.ref (Y 0), .int a, .int b, .int nn] (sX11_ministry a b nn m_isThere m_low m_high m_lot) (fun u => some (.int u.1)) (fun u => mdW Y cI u.2.1 m_status m_isThere m_kinds m_newKinds m_print u.2.2.1 u.2.2.2.1 u.2.2.2.2 m_taped m_latest m_length m_cursor m_token m_from m_till m_fault m_faultAt m_traced r_lane r_many r_item r_market r_of r_newMarket r_newStart r_newOf r_newCoin r_state r_kept r_tape r_brings r_seen r_seenOut r_trace ++ R) := by
  refine mx_intro (cc := cX11_ministry) (maxL := 4) (ret := (some .int)) (by decide) rfl (Nat.le_of_ble_eq_true rfl) ?_
  intro p e s m below meth c A ls H locs Qm hQm hx hb hr hml hts hown hlocks hA hS hP hK hD hF hl
  have hown : s.vm.findClass RX11 = some m.cls := hown
  have hl : lv_has ls 4 [(0, .ref (Y 0)), (1, .int a), (2, .int b), (3, .int nn)] := hl
  have k58 := hts (.fieldLink RX11 58 "PigRoundsModel" "thrown" "I") (by decide +kernel)
  have k229 := hts (.constantLong RX11 229 (99)) (by decide +kernel)
  have k78 := hts (.constant RX11 78 (-1000001)) (by decide +kernel)
  have k176 := hts (.fieldLink RX11 176 "PigRoundsModel" "isThere" "Z") (by decide +kernel)
  have k188 := hts (.fieldLink RX11 188 "PigRoundsModel" "low" "I") (by decide +kernel)
  have k191 := hts (.fieldLink RX11 191 "PigRoundsModel" "high" "I") (by decide +kernel)
  have k194 := hts (.fieldLink RX11 194 "PigRoundsModel" "lot" "I") (by decide +kernel)
  have k231 := hts (.constant RX11 231 (-1000002)) (by decide +kernel)
  have iX11 : ∀ w ∈ u_ws RX11 TX11 35, w ∈ wsX11_ministry := by decide +kernel
  refine lv_aload_n hx hb dX11_ministry_0 rfl (lv_at hl 0 rfl) ?_
  refine lv_iconst (v := 0) hx hb dX11_ministry_1 (by decide) ?_
  refine va_put (D := D) (ci := 9) (v := .int 0) (ty := .int) (C := RX11) (T := TX11) (N := 35) hx hb hts iX11 tyX11 tyX11_ok nmX11 hown hK hP hD hS 0 rfl rfl 0 (by decide) k58 (fun _ h9 => h9) rfl (by decide +kernel) rfl rfl (Nat.le_of_ble_eq_true rfl) dX11_ministry_2 (fun H locs hP hD hS => ?_)
  have hP : va_P D vwCl (mdW Y cI 0 m_status m_isThere m_kinds m_newKinds m_print m_low m_high m_lot m_taped m_latest m_length m_cursor m_token m_from m_till m_fault m_faultAt m_traced r_lane r_many r_item r_market r_of r_newMarket r_newStart r_newOf r_newCoin r_state r_kept r_tape r_brings r_seen r_seenOut r_trace ++ R) H := hP
  have hD : va_D A (mdW Y cI 0 m_status m_isThere m_kinds m_newKinds m_print m_low m_high m_lot m_taped m_latest m_length m_cursor m_token m_from m_till m_fault m_faultAt m_traced r_lane r_many r_item r_market r_of r_newMarket r_newStart r_newOf r_newCoin r_state r_kept r_tape r_brings r_seen r_seenOut r_trace ++ R) := hD
  refine lv_iload_n hx hb dX11_ministry_5 rfl (lv_at hl 1 rfl) ?_
  refine lv_i2l (v := a.toInt64) hx hb dX11_ministry_6 rfl ?_
  refine lv_lconst (v := 0) hx hb dX11_ministry_7 (by decide) ?_
  refine lv_ldc2 (v := 99) hx hb hown k229 dX11_ministry_8 ?_
  refine mx_callS (As := [.long a.toInt64, .long 0, .long 99]) (rest := []) ⟨hx, hb, hml, hown, hts⟩ (mtX11_in l D cI cB cK cS (mdW Y cI 0 m_status m_isThere m_kinds m_newKinds m_print m_low m_high m_lot m_taped m_latest m_length m_cursor m_token m_from m_till m_fault m_faultAt m_traced r_lane r_many r_item r_market r_of r_newMarket r_newStart r_newOf r_newCoin r_state r_kept r_tape r_brings r_seen r_seenOut r_trace ++ R) a.toInt64 0 99) (va_cwS 3 hts gX11_ministry_X11_in rfl rfl rfl (by decide +kernel) ⟨Nat.le_of_ble_eq_true rfl, Nat.le_of_ble_eq_true rfl⟩) pF0_ok trivial hK hP hD hS hA rfl hl.1 rfl (Nat.le_of_ble_eq_true rfl) dX11_ministry_11 ⟨Nat.le_refl _, Nat.le_refl _⟩ (fun u_1 H locs eu_1 hP hD hS => ?_)
  refine W.eq (g2 := F0 m 14 ls [.int u_1]) rfl ?_
  have hP : va_P D vwCl (mdW Y cI 0 m_status m_isThere m_kinds m_newKinds m_print m_low m_high m_lot m_taped m_latest m_length m_cursor m_token m_from m_till m_fault m_faultAt m_traced r_lane r_many r_item r_market r_of r_newMarket r_newStart r_newOf r_newCoin r_state r_kept r_tape r_brings r_seen r_seenOut r_trace ++ R) H := hP
  have hD : va_D A (mdW Y cI 0 m_status m_isThere m_kinds m_newKinds m_print m_low m_high m_lot m_taped m_latest m_length m_cursor m_token m_from m_till m_fault m_faultAt m_traced r_lane r_many r_item r_market r_of r_newMarket r_newStart r_newOf r_newCoin r_state r_kept r_tape r_brings r_seen r_seenOut r_trace ++ R) := hD
  refine lv_if_eq (tgt := 42) hx hb dX11_ministry_14 (by decide) (fun c_2 => ?_) (fun c_2 => ?_)
  · have d_2 := i_eq rfl (show (0 : Int32).toInt = 0 from by decide) c_2
    refine lv_ldc (v := (-1000001)) hx hb hown k78 dX11_ministry_42 ?_
    rw [hQm]
    exact mx_iret (u0 := sX11_ministry a b nn m_isThere m_low m_high m_lot) (rv := (fun u => some (.int u.1))) (w1 := (fun u => mdW Y cI u.2.1 m_status m_isThere m_kinds m_newKinds m_print u.2.2.1 u.2.2.2.1 u.2.2.2.2 m_taped m_latest m_length m_cursor m_token m_from m_till m_fault m_faultAt m_traced r_lane r_many r_item r_market r_of r_newMarket r_newStart r_newOf r_newCoin r_state r_kept r_tape r_brings r_seen r_seenOut r_trace ++ R)) (u := ((-1000001), 0, m_low, m_high, m_lot)) hx hb hr hlocks hK hS (lt_eq eu_1 ((if_pos c_2).trans rfl)) hP hD rfl dX11_ministry_44
  · have d_2 := i_eqn rfl (show (0 : Int32).toInt = 0 from by decide) c_2
    have dt_2 := sX11_in_t ((Int32.toInt_toInt64 _).trans rfl) (show (0 : Int64).toInt = 0 from by decide) (show (99 : Int64).toInt = 99 from by decide) eu_1 c_2
    refine lv_iload_n hx hb dX11_ministry_17 rfl (lv_at hl 2 rfl) ?_
    refine lv_i2l (v := b.toInt64) hx hb dX11_ministry_18 rfl ?_
    refine lv_iload_n hx hb dX11_ministry_19 rfl (lv_at hl 1 rfl) ?_
    refine lv_i2l (v := a.toInt64) hx hb dX11_ministry_20 rfl ?_
    refine lv_ldc2 (v := 99) hx hb hown k229 dX11_ministry_21 ?_
    refine mx_callS (As := [.long b.toInt64, .long a.toInt64, .long 99]) (rest := []) ⟨hx, hb, hml, hown, hts⟩ (mtX11_in l D cI cB cK cS (mdW Y cI 0 m_status m_isThere m_kinds m_newKinds m_print m_low m_high m_lot m_taped m_latest m_length m_cursor m_token m_from m_till m_fault m_faultAt m_traced r_lane r_many r_item r_market r_of r_newMarket r_newStart r_newOf r_newCoin r_state r_kept r_tape r_brings r_seen r_seenOut r_trace ++ R) b.toInt64 a.toInt64 99) (va_cwS 3 hts gX11_ministry_X11_in rfl rfl rfl (by decide +kernel) ⟨Nat.le_of_ble_eq_true rfl, Nat.le_of_ble_eq_true rfl⟩) pF0_ok trivial hK hP hD hS hA rfl hl.1 rfl (Nat.le_of_ble_eq_true rfl) dX11_ministry_24 ⟨Nat.le_refl _, Nat.le_refl _⟩ (fun u_3 H locs eu_3 hP hD hS => ?_)
    refine W.eq (g2 := F0 m 27 ls [.int u_3]) rfl ?_
    have hP : va_P D vwCl (mdW Y cI 0 m_status m_isThere m_kinds m_newKinds m_print m_low m_high m_lot m_taped m_latest m_length m_cursor m_token m_from m_till m_fault m_faultAt m_traced r_lane r_many r_item r_market r_of r_newMarket r_newStart r_newOf r_newCoin r_state r_kept r_tape r_brings r_seen r_seenOut r_trace ++ R) H := hP
    have hD : va_D A (mdW Y cI 0 m_status m_isThere m_kinds m_newKinds m_print m_low m_high m_lot m_taped m_latest m_length m_cursor m_token m_from m_till m_fault m_faultAt m_traced r_lane r_many r_item r_market r_of r_newMarket r_newStart r_newOf r_newCoin r_state r_kept r_tape r_brings r_seen r_seenOut r_trace ++ R) := hD
    refine lv_if_eq (tgt := 42) hx hb dX11_ministry_27 (by decide) (fun c_4 => ?_) (fun c_4 => ?_)
    · have d_4 := i_eq rfl (show (0 : Int32).toInt = 0 from by decide) c_4
      refine lv_ldc (v := (-1000001)) hx hb hown k78 dX11_ministry_42 ?_
      rw [hQm]
      exact mx_iret (u0 := sX11_ministry a b nn m_isThere m_low m_high m_lot) (rv := (fun u => some (.int u.1))) (w1 := (fun u => mdW Y cI u.2.1 m_status m_isThere m_kinds m_newKinds m_print u.2.2.1 u.2.2.2.1 u.2.2.2.2 m_taped m_latest m_length m_cursor m_token m_from m_till m_fault m_faultAt m_traced r_lane r_many r_item r_market r_of r_newMarket r_newStart r_newOf r_newCoin r_state r_kept r_tape r_brings r_seen r_seenOut r_trace ++ R)) (u := ((-1000001), 0, m_low, m_high, m_lot)) hx hb hr hlocks hK hS (lt_eq eu_1 ((if_neg c_2).trans (lt_eq eu_3 ((if_pos c_4).trans rfl)))) hP hD rfl dX11_ministry_44
    · have d_4 := i_eqn rfl (show (0 : Int32).toInt = 0 from by decide) c_4
      have dt_4 := sX11_in_t ((Int32.toInt_toInt64 _).trans rfl) ((Int32.toInt_toInt64 _).trans rfl) (show (99 : Int64).toInt = 99 from by decide) eu_3 c_4
      refine lv_iload_n hx hb dX11_ministry_30 rfl (lv_at hl 3 rfl) ?_
      refine lv_i2l (v := nn.toInt64) hx hb dX11_ministry_31 rfl ?_
      refine lv_lconst (v := 0) hx hb dX11_ministry_32 (by decide) ?_
      refine lv_ldc2 (v := 99) hx hb hown k229 dX11_ministry_33 ?_
      refine mx_callS (As := [.long nn.toInt64, .long 0, .long 99]) (rest := []) ⟨hx, hb, hml, hown, hts⟩ (mtX11_in l D cI cB cK cS (mdW Y cI 0 m_status m_isThere m_kinds m_newKinds m_print m_low m_high m_lot m_taped m_latest m_length m_cursor m_token m_from m_till m_fault m_faultAt m_traced r_lane r_many r_item r_market r_of r_newMarket r_newStart r_newOf r_newCoin r_state r_kept r_tape r_brings r_seen r_seenOut r_trace ++ R) nn.toInt64 0 99) (va_cwS 3 hts gX11_ministry_X11_in rfl rfl rfl (by decide +kernel) ⟨Nat.le_of_ble_eq_true rfl, Nat.le_of_ble_eq_true rfl⟩) pF0_ok trivial hK hP hD hS hA rfl hl.1 rfl (Nat.le_of_ble_eq_true rfl) dX11_ministry_36 ⟨Nat.le_refl _, Nat.le_refl _⟩ (fun u_5 H locs eu_5 hP hD hS => ?_)
      refine W.eq (g2 := F0 m 39 ls [.int u_5]) rfl ?_
      have hP : va_P D vwCl (mdW Y cI 0 m_status m_isThere m_kinds m_newKinds m_print m_low m_high m_lot m_taped m_latest m_length m_cursor m_token m_from m_till m_fault m_faultAt m_traced r_lane r_many r_item r_market r_of r_newMarket r_newStart r_newOf r_newCoin r_state r_kept r_tape r_brings r_seen r_seenOut r_trace ++ R) H := hP
      have hD : va_D A (mdW Y cI 0 m_status m_isThere m_kinds m_newKinds m_print m_low m_high m_lot m_taped m_latest m_length m_cursor m_token m_from m_till m_fault m_faultAt m_traced r_lane r_many r_item r_market r_of r_newMarket r_newStart r_newOf r_newCoin r_state r_kept r_tape r_brings r_seen r_seenOut r_trace ++ R) := hD
      refine lv_if_ne (tgt := 45) hx hb dX11_ministry_39 (by decide) (fun c_6 => ?_) (fun c_6 => ?_)
      · have d_6 := i_eqn rfl (show (0 : Int32).toInt = 0 from by decide) c_6
        have dt_6 := sX11_in_t ((Int32.toInt_toInt64 _).trans rfl) (show (0 : Int64).toInt = 0 from by decide) (show (99 : Int64).toInt = 99 from by decide) eu_5 c_6
        refine lv_aload_n hx hb dX11_ministry_45 rfl (lv_at hl 0 rfl) ?_
        refine va_get (D := D) (ci := 9) (v := .int m_isThere) (C := RX11) (T := TX11) (N := 35) hx hb hts iX11 hown hK hP 0 rfl rfl 5 (by decide) k176 (fun _ h9 => h9) rfl dX11_ministry_46 ?_
        refine lv_if_ne (tgt := 55) hx hb dX11_ministry_49 (by decide) (fun c_7 => ?_) (fun c_7 => ?_)
        · have d_7 := i_eqn rfl (show (0 : Int32).toInt = 0 from by decide) c_7
          refine lv_aload_n hx hb dX11_ministry_55 rfl (lv_at hl 0 rfl) ?_
          refine lv_iload_n hx hb dX11_ministry_56 rfl (lv_at hl 1 rfl) ?_
          refine va_put (D := D) (ci := 9) (v := .int a) (ty := .int) (C := RX11) (T := TX11) (N := 35) hx hb hts iX11 tyX11 tyX11_ok nmX11 hown hK hP hD hS 0 rfl rfl 17 (by decide) k188 (fun _ h9 => h9) rfl (by decide +kernel) rfl rfl (Nat.le_of_ble_eq_true rfl) dX11_ministry_57 (fun H locs hP hD hS => ?_)
          have hP : va_P D vwCl (mdW Y cI 0 m_status m_isThere m_kinds m_newKinds m_print a m_high m_lot m_taped m_latest m_length m_cursor m_token m_from m_till m_fault m_faultAt m_traced r_lane r_many r_item r_market r_of r_newMarket r_newStart r_newOf r_newCoin r_state r_kept r_tape r_brings r_seen r_seenOut r_trace ++ R) H := hP
          have hD : va_D A (mdW Y cI 0 m_status m_isThere m_kinds m_newKinds m_print a m_high m_lot m_taped m_latest m_length m_cursor m_token m_from m_till m_fault m_faultAt m_traced r_lane r_many r_item r_market r_of r_newMarket r_newStart r_newOf r_newCoin r_state r_kept r_tape r_brings r_seen r_seenOut r_trace ++ R) := hD
          refine lv_aload_n hx hb dX11_ministry_60 rfl (lv_at hl 0 rfl) ?_
          refine lv_iload_n hx hb dX11_ministry_61 rfl (lv_at hl 2 rfl) ?_
          refine va_put (D := D) (ci := 9) (v := .int b) (ty := .int) (C := RX11) (T := TX11) (N := 35) hx hb hts iX11 tyX11 tyX11_ok nmX11 hown hK hP hD hS 0 rfl rfl 18 (by decide) k191 (fun _ h9 => h9) rfl (by decide +kernel) rfl rfl (Nat.le_of_ble_eq_true rfl) dX11_ministry_62 (fun H locs hP hD hS => ?_)
          have hP : va_P D vwCl (mdW Y cI 0 m_status m_isThere m_kinds m_newKinds m_print a b m_lot m_taped m_latest m_length m_cursor m_token m_from m_till m_fault m_faultAt m_traced r_lane r_many r_item r_market r_of r_newMarket r_newStart r_newOf r_newCoin r_state r_kept r_tape r_brings r_seen r_seenOut r_trace ++ R) H := hP
          have hD : va_D A (mdW Y cI 0 m_status m_isThere m_kinds m_newKinds m_print a b m_lot m_taped m_latest m_length m_cursor m_token m_from m_till m_fault m_faultAt m_traced r_lane r_many r_item r_market r_of r_newMarket r_newStart r_newOf r_newCoin r_state r_kept r_tape r_brings r_seen r_seenOut r_trace ++ R) := hD
          refine lv_aload_n hx hb dX11_ministry_65 rfl (lv_at hl 0 rfl) ?_
          refine lv_iload_n hx hb dX11_ministry_66 rfl (lv_at hl 3 rfl) ?_
          refine va_put (D := D) (ci := 9) (v := .int nn) (ty := .int) (C := RX11) (T := TX11) (N := 35) hx hb hts iX11 tyX11 tyX11_ok nmX11 hown hK hP hD hS 0 rfl rfl 19 (by decide) k194 (fun _ h9 => h9) rfl (by decide +kernel) rfl rfl (Nat.le_of_ble_eq_true rfl) dX11_ministry_67 (fun H locs hP hD hS => ?_)
          have hP : va_P D vwCl (mdW Y cI 0 m_status m_isThere m_kinds m_newKinds m_print a b nn m_taped m_latest m_length m_cursor m_token m_from m_till m_fault m_faultAt m_traced r_lane r_many r_item r_market r_of r_newMarket r_newStart r_newOf r_newCoin r_state r_kept r_tape r_brings r_seen r_seenOut r_trace ++ R) H := hP
          have hD : va_D A (mdW Y cI 0 m_status m_isThere m_kinds m_newKinds m_print a b nn m_taped m_latest m_length m_cursor m_token m_from m_till m_fault m_faultAt m_traced r_lane r_many r_item r_market r_of r_newMarket r_newStart r_newOf r_newCoin r_state r_kept r_tape r_brings r_seen r_seenOut r_trace ++ R) := hD
          refine lv_iconst (v := 1) hx hb dX11_ministry_70 (by decide) ?_
          rw [hQm]
          exact mx_iret (u0 := sX11_ministry a b nn m_isThere m_low m_high m_lot) (rv := (fun u => some (.int u.1))) (w1 := (fun u => mdW Y cI u.2.1 m_status m_isThere m_kinds m_newKinds m_print u.2.2.1 u.2.2.2.1 u.2.2.2.2 m_taped m_latest m_length m_cursor m_token m_from m_till m_fault m_faultAt m_traced r_lane r_many r_item r_market r_of r_newMarket r_newStart r_newOf r_newCoin r_state r_kept r_tape r_brings r_seen r_seenOut r_trace ++ R)) (u := (1, 0, a, b, nn)) hx hb hr hlocks hK hS (lt_eq eu_1 ((if_neg c_2).trans (lt_eq eu_3 ((if_neg c_4).trans (lt_eq eu_5 ((if_neg c_6).trans ((if_neg c_7).trans rfl))))))) hP hD rfl dX11_ministry_71
        · have d_7 := i_eq rfl (show (0 : Int32).toInt = 0 from by decide) c_7
          refine lv_ldc (v := (-1000002)) hx hb hown k231 dX11_ministry_52 ?_
          rw [hQm]
          exact mx_iret (u0 := sX11_ministry a b nn m_isThere m_low m_high m_lot) (rv := (fun u => some (.int u.1))) (w1 := (fun u => mdW Y cI u.2.1 m_status m_isThere m_kinds m_newKinds m_print u.2.2.1 u.2.2.2.1 u.2.2.2.2 m_taped m_latest m_length m_cursor m_token m_from m_till m_fault m_faultAt m_traced r_lane r_many r_item r_market r_of r_newMarket r_newStart r_newOf r_newCoin r_state r_kept r_tape r_brings r_seen r_seenOut r_trace ++ R)) (u := ((-1000002), 0, m_low, m_high, m_lot)) hx hb hr hlocks hK hS (lt_eq eu_1 ((if_neg c_2).trans (lt_eq eu_3 ((if_neg c_4).trans (lt_eq eu_5 ((if_neg c_6).trans ((if_pos c_7).trans rfl))))))) hP hD rfl dX11_ministry_54
      · have d_6 := i_eq rfl (show (0 : Int32).toInt = 0 from by decide) c_6
        refine lv_ldc (v := (-1000001)) hx hb hown k78 dX11_ministry_42 ?_
        rw [hQm]
        exact mx_iret (u0 := sX11_ministry a b nn m_isThere m_low m_high m_lot) (rv := (fun u => some (.int u.1))) (w1 := (fun u => mdW Y cI u.2.1 m_status m_isThere m_kinds m_newKinds m_print u.2.2.1 u.2.2.2.1 u.2.2.2.2 m_taped m_latest m_length m_cursor m_token m_from m_till m_fault m_faultAt m_traced r_lane r_many r_item r_market r_of r_newMarket r_newStart r_newOf r_newCoin r_state r_kept r_tape r_brings r_seen r_seenOut r_trace ++ R)) (u := ((-1000001), 0, m_low, m_high, m_lot)) hx hb hr hlocks hK hS (lt_eq eu_1 ((if_neg c_2).trans (lt_eq eu_3 ((if_neg c_4).trans (lt_eq eu_5 ((if_pos c_6).trans rfl)))))) hP hD rfl dX11_ministry_44

def lX11_years_32 (nn : Int32) (m_kinds : Int32) (m_print : Int32) (m_low : Int32) (m_high : Int32) (m_lot : Int32) (r_market : Nat → Int32) (r_of : Nat → Int32) : Nat → Int32 → (Nat → Int32) → (Nat → Int32) → Int32 × (Nat → Int32) × (Nat → Int32)
  | 0, x2_32, r_state_32, r_brings_32 => (x2_32, r_state_32, r_brings_32)
  | n + 1, x2_32, r_state_32, r_brings_32 => if nn ≤ x2_32 then ((x2_32, r_state_32, r_brings_32)) else (lt (sX11_year m_kinds m_print m_low m_high m_lot r_market r_of r_state_32 r_brings_32) (fun u_5 : (Nat → Int32) × (Nat → Int32) => lt (x2_32 + 1) (fun x_6 : Int32 => lX11_years_32 nn m_kinds m_print m_low m_high m_lot r_market r_of n x_6 u_5.1 u_5.2)))

def sX11_years (nn : Int32) (m_isThere : Int32) (m_kinds : Int32) (m_print : Int32) (m_low : Int32) (m_high : Int32) (m_lot : Int32) (r_market : Nat → Int32) (r_of : Nat → Int32) (r_state : Nat → Int32) (r_brings : Nat → Int32) : Int32 × (Int32) × (Nat → Int32) × (Nat → Int32) := lt (sX11_in nn.toInt64 1 100) (fun u_1 : Int32 => if u_1 = 0 then (((-1000001), 0, r_state, r_brings)) else (if m_isThere = 0 then (((-1000002), 0, r_state, r_brings)) else (lt (lX11_years_32 nn m_kinds m_print m_low m_high m_lot r_market r_of 101 0 r_state r_brings) (fun u_7 : Int32 × (Nat → Int32) × (Nat → Int32) => ((u_7.2.1 0), 0, u_7.2.1, u_7.2.2)))))
set_option maxHeartbeats 4000000 in
set_option maxRecDepth 100000 in
theorem mtX11_years (l : Launch) (D : va_G) (cI cB cK cS : ClassId) (Y : Nat → Nat) (R : va_W) (m_thrown : Int32) (m_status : Int32) (m_isThere : Int32) (m_kinds : Int32) (m_newKinds : Int32) (m_print : Int32) (m_low : Int32) (m_high : Int32) (m_lot : Int32) (m_taped : Int32) (m_latest : Int32) (m_length : Int32) (m_cursor : Int32) (m_token : Int32) (m_from : Int32) (m_till : Int32) (m_fault : Int32) (m_faultAt : Int32) (m_traced : Int32) (r_lane : Nat → Int32) (r_many : Nat → Int32) (r_item : Nat → Int32) (r_market : Nat → Int32) (r_of : Nat → Int32) (r_newMarket : Nat → Int32) (r_newStart : Nat → Int32) (r_newOf : Nat → Int32) (r_newCoin : Nat → Int32) (r_state : Nat → Int32) (r_kept : Nat → Int32) (r_tape : Nat → Int32) (r_brings : Nat → Int32) (r_seen : Nat → Int32) (r_seenOut : Nat → Int32) (r_trace : Nat → Int32) (nn : Int32) (hkd : m_kinds.toInt ≤ 5) (hth : ¬ m_isThere = 0 → ¬ r_market 1 = 0) : MX l yX11_years wsX11_years (rmX 7) D (tyX cI cB cK cS) pF0 (mdW Y cI m_thrown m_status m_isThere m_kinds m_newKinds m_print m_low m_high m_lot m_taped m_latest m_length m_cursor m_token m_from m_till m_fault m_faultAt m_traced r_lane r_many r_item r_market r_of r_newMarket r_newStart r_newOf r_newCoin r_state r_kept r_tape r_brings r_seen r_seenOut r_trace ++ R) [.ref (Y 0), .int nn] (sX11_years nn m_isThere m_kinds m_print m_low m_high m_lot r_market r_of r_state r_brings) (fun u => some (.int u.1)) (fun u => mdW Y cI u.2.1 m_status m_isThere m_kinds m_newKinds m_print m_low m_high m_lot m_taped m_latest m_length m_cursor m_token m_from m_till m_fault m_faultAt m_traced r_lane r_many r_item r_market r_of r_newMarket r_newStart r_newOf r_newCoin u.2.2.1 r_kept r_tape u.2.2.2 r_seen r_seenOut r_trace ++ R) := by
  refine mx_intro (cc := cX11_years) (maxL := 3) (ret := (some .int)) (by decide) rfl (Nat.le_of_ble_eq_true rfl) ?_
  intro p e s m below meth c A ls H locs Qm hQm hx hb hr hml hts hown hlocks hA hS hP hK hD hF hl
  have hown : s.vm.findClass RX11 = some m.cls := hown
  have hl : lv_has ls 3 [(0, .ref (Y 0)), (1, .int nn)] := hl
  have k58 := hts (.fieldLink RX11 58 "PigRoundsModel" "thrown" "I") (by decide +kernel)
  have k232 := hts (.constantLong RX11 232 (100)) (by decide +kernel)
  have k176 := hts (.fieldLink RX11 176 "PigRoundsModel" "isThere" "Z") (by decide +kernel)
  have k37 := hts (.fieldLink RX11 37 "PigRoundsModel" "state" "[I") (by decide +kernel)
  have k231 := hts (.constant RX11 231 (-1000002)) (by decide +kernel)
  have k78 := hts (.constant RX11 78 (-1000001)) (by decide +kernel)
  have iX11 : ∀ w ∈ u_ws RX11 TX11 35, w ∈ wsX11_years := by decide +kernel
  refine lv_aload_n hx hb dX11_years_0 rfl (lv_at hl 0 rfl) ?_
  refine lv_iconst (v := 0) hx hb dX11_years_1 (by decide) ?_
  refine va_put (D := D) (ci := 9) (v := .int 0) (ty := .int) (C := RX11) (T := TX11) (N := 35) hx hb hts iX11 tyX11 tyX11_ok nmX11 hown hK hP hD hS 0 rfl rfl 0 (by decide) k58 (fun _ h9 => h9) rfl (by decide +kernel) rfl rfl (Nat.le_of_ble_eq_true rfl) dX11_years_2 (fun H locs hP hD hS => ?_)
  have hP : va_P D vwCl (mdW Y cI 0 m_status m_isThere m_kinds m_newKinds m_print m_low m_high m_lot m_taped m_latest m_length m_cursor m_token m_from m_till m_fault m_faultAt m_traced r_lane r_many r_item r_market r_of r_newMarket r_newStart r_newOf r_newCoin r_state r_kept r_tape r_brings r_seen r_seenOut r_trace ++ R) H := hP
  have hD : va_D A (mdW Y cI 0 m_status m_isThere m_kinds m_newKinds m_print m_low m_high m_lot m_taped m_latest m_length m_cursor m_token m_from m_till m_fault m_faultAt m_traced r_lane r_many r_item r_market r_of r_newMarket r_newStart r_newOf r_newCoin r_state r_kept r_tape r_brings r_seen r_seenOut r_trace ++ R) := hD
  refine lv_iload_n hx hb dX11_years_5 rfl (lv_at hl 1 rfl) ?_
  refine lv_i2l (v := nn.toInt64) hx hb dX11_years_6 rfl ?_
  refine lv_lconst (v := 1) hx hb dX11_years_7 (by decide) ?_
  refine lv_ldc2 (v := 100) hx hb hown k232 dX11_years_8 ?_
  refine mx_callS (As := [.long nn.toInt64, .long 1, .long 100]) (rest := []) ⟨hx, hb, hml, hown, hts⟩ (mtX11_in l D cI cB cK cS (mdW Y cI 0 m_status m_isThere m_kinds m_newKinds m_print m_low m_high m_lot m_taped m_latest m_length m_cursor m_token m_from m_till m_fault m_faultAt m_traced r_lane r_many r_item r_market r_of r_newMarket r_newStart r_newOf r_newCoin r_state r_kept r_tape r_brings r_seen r_seenOut r_trace ++ R) nn.toInt64 1 100) (va_cwS 3 hts gX11_years_X11_in rfl rfl rfl (by decide +kernel) ⟨Nat.le_of_ble_eq_true rfl, Nat.le_of_ble_eq_true rfl⟩) pF0_ok trivial hK hP hD hS hA rfl hl.1 rfl (Nat.le_of_ble_eq_true rfl) dX11_years_11 ⟨Nat.le_refl _, Nat.le_refl _⟩ (fun u_1 H locs eu_1 hP hD hS => ?_)
  refine W.eq (g2 := F0 m 14 ls [.int u_1]) rfl ?_
  have hP : va_P D vwCl (mdW Y cI 0 m_status m_isThere m_kinds m_newKinds m_print m_low m_high m_lot m_taped m_latest m_length m_cursor m_token m_from m_till m_fault m_faultAt m_traced r_lane r_many r_item r_market r_of r_newMarket r_newStart r_newOf r_newCoin r_state r_kept r_tape r_brings r_seen r_seenOut r_trace ++ R) H := hP
  have hD : va_D A (mdW Y cI 0 m_status m_isThere m_kinds m_newKinds m_print m_low m_high m_lot m_taped m_latest m_length m_cursor m_token m_from m_till m_fault m_faultAt m_traced r_lane r_many r_item r_market r_of r_newMarket r_newStart r_newOf r_newCoin r_state r_kept r_tape r_brings r_seen r_seenOut r_trace ++ R) := hD
  refine lv_if_ne (tgt := 20) hx hb dX11_years_14 (by decide) (fun c_2 => ?_) (fun c_2 => ?_)
  · have d_2 := i_eqn rfl (show (0 : Int32).toInt = 0 from by decide) c_2
    have dt_2 := sX11_in_t ((Int32.toInt_toInt64 _).trans rfl) (show (1 : Int64).toInt = 1 from by decide) (show (100 : Int64).toInt = 100 from by decide) eu_1 c_2
    refine lv_aload_n hx hb dX11_years_20 rfl (lv_at hl 0 rfl) ?_
    refine va_get (D := D) (ci := 9) (v := .int m_isThere) (C := RX11) (T := TX11) (N := 35) hx hb hts iX11 hown hK hP 0 rfl rfl 5 (by decide) k176 (fun _ h9 => h9) rfl dX11_years_21 ?_
    refine lv_if_ne (tgt := 30) hx hb dX11_years_24 (by decide) (fun c_3 => ?_) (fun c_3 => ?_)
    · have d_3 := i_eqn rfl (show (0 : Int32).toInt = 0 from by decide) c_3
      refine lv_iconst (v := 0) hx hb dX11_years_30 (by decide) ?_
      refine lv_istore_n (lv' := [(2, .int 0), (0, .ref (Y 0)), (1, .int nn)]) hx hb dX11_years_31 rfl hl (by decide) rfl (fun ls hl => ?_)
      have L_32 : ∀ (n : Nat) (x2_32 : Int32) (r_state_32 : Nat → Int32) (r_brings_32 : Nat → Int32) (H : Heap) (locs : List Loc) (ls : Array Slot), 0 ≤ x2_32.toInt → x2_32.toInt ≤ 100 → (100 : Int) < x2_32.toInt + ((n : Nat) : Int) → va_P D vwCl (mdW Y cI 0 m_status m_isThere m_kinds m_newKinds m_print m_low m_high m_lot m_taped m_latest m_length m_cursor m_token m_from m_till m_fault m_faultAt m_traced r_lane r_many r_item r_market r_of r_newMarket r_newStart r_newOf r_newCoin r_state_32 r_kept r_tape r_brings_32 r_seen r_seenOut r_trace ++ R) H → va_D A (mdW Y cI 0 m_status m_isThere m_kinds m_newKinds m_print m_low m_high m_lot m_taped m_latest m_length m_cursor m_token m_from m_till m_fault m_faultAt m_traced r_lane r_many r_item r_market r_of r_newMarket r_newStart r_newOf r_newCoin r_state_32 r_kept r_tape r_brings_32 r_seen r_seenOut r_trace ++ R) → va_S A s.heap H locs → lv_has ls 3 [(2, .int x2_32), (0, .ref (Y 0)), (1, .int nn)] → (∀ (u : Int32 × (Nat → Int32) × (Nat → Int32)) (H : Heap) (locs : List Loc) (ls : Array Slot), u = lX11_years_32 nn m_kinds m_print m_low m_high m_lot r_market r_of n x2_32 r_state_32 r_brings_32 → va_P D vwCl (mdW Y cI 0 m_status m_isThere m_kinds m_newKinds m_print m_low m_high m_lot m_taped m_latest m_length m_cursor m_token m_from m_till m_fault m_faultAt m_traced r_lane r_many r_item r_market r_of r_newMarket r_newStart r_newOf r_newCoin u.2.1 r_kept r_tape u.2.2 r_seen r_seenOut r_trace ++ R) H → va_D A (mdW Y cI 0 m_status m_isThere m_kinds m_newKinds m_print m_low m_high m_lot m_taped m_latest m_length m_cursor m_token m_from m_till m_fault m_faultAt m_traced r_lane r_many r_item r_market r_of r_newMarket r_newStart r_newOf r_newCoin u.2.1 r_kept r_tape u.2.2 r_seen r_seenOut r_trace ++ R) → va_S A s.heap H locs → lv_has ls 3 [(0, .ref (Y 0))] → W p l e (rmX 7) s m ([.ref (Y 0), .int nn] : List Value).toArray below meth c H locs 0 0 Qm (F0 m 47 ls [])) → W p l e (rmX 7) s m ([.ref (Y 0), .int nn] : List Value).toArray below meth c H locs 0 0 Qm (F0 m 32 ls []) := by
        intro n
        induction n with
        | zero =>
          intro x2_32 r_state_32 r_brings_32 H locs ls iv_32_0 iv_32_1 iv_32_2 hP hD hS hl kont_32
          exfalso; omega
        | succ n ih_32 =>
          intro x2_32 r_state_32 r_brings_32 H locs ls iv_32_0 iv_32_1 iv_32_2 hP hD hS hl kont_32
          refine lv_iload_n hx hb dX11_years_32 rfl (lv_at hl 0 rfl) ?_
          refine lv_iload_n hx hb dX11_years_33 rfl (lv_at hl 2 rfl) ?_
          refine lv_icmp_ge (tgt := 47) hx hb dX11_years_34 (by decide) (fun c_4 => ?_) (fun c_4 => ?_)
          · have d_4 := i_le rfl rfl c_4
            exact kont_32 (x2_32, r_state_32, r_brings_32) H locs ls (show lX11_years_32 nn m_kinds m_print m_low m_high m_lot r_market r_of (n + 1) x2_32 r_state_32 r_brings_32 = (x2_32, r_state_32, r_brings_32) from ((if_pos c_4).trans rfl)).symm  hP hD hS (lv_sub hl [1] rfl)
          · have d_4 := i_len rfl rfl c_4
            refine lv_aload_n hx hb dX11_years_37 rfl (lv_at hl 1 rfl) ?_
            refine mx_callV (As := []) (rest := []) ⟨hx, hb, hml, hown, hts⟩ (mtX11_year l D cI cB cK cS Y R 0 m_status m_isThere m_kinds m_newKinds m_print m_low m_high m_lot m_taped m_latest m_length m_cursor m_token m_from m_till m_fault m_faultAt m_traced r_lane r_many r_item r_market r_of r_newMarket r_newStart r_newOf r_newCoin r_state_32 r_kept r_tape r_brings_32 r_seen r_seenOut r_trace (by omega) (hth (by assumption))) (cwV 0 hts gX11_years_X11_year rfl rfl rfl (by decide +kernel) ⟨Nat.le_of_ble_eq_true rfl, Nat.le_of_ble_eq_true rfl⟩) pF0_ok trivial hK hP hD hS hA 0 rfl rfl rfl rfl hl.1 rfl (Nat.le_of_ble_eq_true rfl) dX11_years_38 ⟨Nat.le_refl _, Nat.le_refl _⟩ (fun u_5 H locs eu_5 hP hD hS => ?_)
            refine W.eq (g2 := F0 m 41 ls []) rfl ?_
            have hP : va_P D vwCl (mdW Y cI 0 m_status m_isThere m_kinds m_newKinds m_print m_low m_high m_lot m_taped m_latest m_length m_cursor m_token m_from m_till m_fault m_faultAt m_traced r_lane r_many r_item r_market r_of r_newMarket r_newStart r_newOf r_newCoin u_5.1 r_kept r_tape u_5.2 r_seen r_seenOut r_trace ++ R) H := hP
            have hD : va_D A (mdW Y cI 0 m_status m_isThere m_kinds m_newKinds m_print m_low m_high m_lot m_taped m_latest m_length m_cursor m_token m_from m_till m_fault m_faultAt m_traced r_lane r_many r_item r_market r_of r_newMarket r_newStart r_newOf r_newCoin u_5.1 r_kept r_tape u_5.2 r_seen r_seenOut r_trace ++ R) := hD
            obtain ⟨x_6, ex_6⟩ : ∃ z : Int32, z = x2_32 + 1 := ⟨_, rfl⟩
            refine lv_iinc (v := x_6) (lv' := [(2, .int x_6), (0, .ref (Y 0)), (1, .int nn)]) hx hb dX11_years_41 hl (k := 0) rfl (by rw [ex_6]; rfl) (by decide) rfl (fun ls hl => ?_)
            refine lv_goto (tgt := 32) hx hb dX11_years_44 (by decide) ?_
            have tx_6 : x_6.toInt = x2_32.toInt + 1 := i_inc ex_6 (by decide) (by omega) (by omega)
            refine ih_32 x_6 u_5.1 u_5.2 H locs ls (by omega) (by omega) (by omega) hP hD hS (lv_sub hl [0, 1, 2] rfl) (fun u H locs ls eu  hP hD hS hl => ?_)
            exact kont_32 u H locs ls (eu.trans (show lX11_years_32 nn m_kinds m_print m_low m_high m_lot r_market r_of (n + 1) x2_32 r_state_32 r_brings_32 = lX11_years_32 nn m_kinds m_print m_low m_high m_lot r_market r_of n x_6 u_5.1 u_5.2 from ((if_neg c_4).trans (lt_eq eu_5 (lt_eq ex_6 rfl)))).symm)  hP hD hS hl
      refine L_32 101 0 r_state r_brings H locs ls (by decide) (by decide) (by decide) hP hD hS (lv_sub hl [0, 1, 2] rfl) (fun u_7 H locs ls eu_7  hP hD hS hl => ?_)
      have hP : va_P D vwCl (mdW Y cI 0 m_status m_isThere m_kinds m_newKinds m_print m_low m_high m_lot m_taped m_latest m_length m_cursor m_token m_from m_till m_fault m_faultAt m_traced r_lane r_many r_item r_market r_of r_newMarket r_newStart r_newOf r_newCoin u_7.2.1 r_kept r_tape u_7.2.2 r_seen r_seenOut r_trace ++ R) H := hP
      have hD : va_D A (mdW Y cI 0 m_status m_isThere m_kinds m_newKinds m_print m_low m_high m_lot m_taped m_latest m_length m_cursor m_token m_from m_till m_fault m_faultAt m_traced r_lane r_many r_item r_market r_of r_newMarket r_newStart r_newOf r_newCoin u_7.2.1 r_kept r_tape u_7.2.2 r_seen r_seenOut r_trace ++ R) := hD
      refine lv_aload_n hx hb dX11_years_47 rfl (lv_at hl 0 rfl) ?_
      refine va_get (D := D) (ci := 9) (v := .ref (Y 14)) (C := RX11) (T := TX11) (N := 35) hx hb hts iX11 hown hK hP 0 rfl rfl 14 (by decide) k37 (fun _ h9 => h9) rfl dX11_years_48 ?_
      refine lv_iconst (v := 0) hx hb dX11_years_51 (by decide) ?_
      have q_8 : vp_in (0 : Int32) 17 := vp_in_iff.mpr (by decide)
      refine va_iald hx hb hK hP 10 0 rfl rfl q_8 dX11_years_52 ?_
      refine W.eq (g2 := F0 m 53 ls [.int (u_7.2.1 0)]) rfl ?_
      rw [hQm]
      exact mx_iret (u0 := sX11_years nn m_isThere m_kinds m_print m_low m_high m_lot r_market r_of r_state r_brings) (rv := (fun u => some (.int u.1))) (w1 := (fun u => mdW Y cI u.2.1 m_status m_isThere m_kinds m_newKinds m_print m_low m_high m_lot m_taped m_latest m_length m_cursor m_token m_from m_till m_fault m_faultAt m_traced r_lane r_many r_item r_market r_of r_newMarket r_newStart r_newOf r_newCoin u.2.2.1 r_kept r_tape u.2.2.2 r_seen r_seenOut r_trace ++ R)) (u := ((u_7.2.1 0), 0, u_7.2.1, u_7.2.2)) hx hb hr hlocks hK hS (lt_eq eu_1 ((if_neg c_2).trans ((if_neg c_3).trans (lt_eq eu_7 rfl)))) hP hD rfl dX11_years_53
    · have d_3 := i_eq rfl (show (0 : Int32).toInt = 0 from by decide) c_3
      refine lv_ldc (v := (-1000002)) hx hb hown k231 dX11_years_27 ?_
      rw [hQm]
      exact mx_iret (u0 := sX11_years nn m_isThere m_kinds m_print m_low m_high m_lot r_market r_of r_state r_brings) (rv := (fun u => some (.int u.1))) (w1 := (fun u => mdW Y cI u.2.1 m_status m_isThere m_kinds m_newKinds m_print m_low m_high m_lot m_taped m_latest m_length m_cursor m_token m_from m_till m_fault m_faultAt m_traced r_lane r_many r_item r_market r_of r_newMarket r_newStart r_newOf r_newCoin u.2.2.1 r_kept r_tape u.2.2.2 r_seen r_seenOut r_trace ++ R)) (u := ((-1000002), 0, r_state, r_brings)) hx hb hr hlocks hK hS (lt_eq eu_1 ((if_neg c_2).trans ((if_pos c_3).trans rfl))) hP hD rfl dX11_years_29
  · have d_2 := i_eq rfl (show (0 : Int32).toInt = 0 from by decide) c_2
    refine lv_ldc (v := (-1000001)) hx hb hown k78 dX11_years_17 ?_
    rw [hQm]
    exact mx_iret (u0 := sX11_years nn m_isThere m_kinds m_print m_low m_high m_lot r_market r_of r_state r_brings) (rv := (fun u => some (.int u.1))) (w1 := (fun u => mdW Y cI u.2.1 m_status m_isThere m_kinds m_newKinds m_print m_low m_high m_lot m_taped m_latest m_length m_cursor m_token m_from m_till m_fault m_faultAt m_traced r_lane r_many r_item r_market r_of r_newMarket r_newStart r_newOf r_newCoin u.2.2.1 r_kept r_tape u.2.2.2 r_seen r_seenOut r_trace ++ R)) (u := ((-1000001), 0, r_state, r_brings)) hx hb hr hlocks hK hS (lt_eq eu_1 ((if_pos c_2).trans rfl)) hP hD rfl dX11_years_19

def sX11_now (w : Int32) (m_isThere : Int32) (r_state : Nat → Int32) : Int32 × (Int32) := lt (sX11_in w.toInt64 0 6) (fun u_1 : Int32 => if u_1 = 0 then (((-1000001), 0)) else (if m_isThere = 0 then (((-1000002), 0)) else (((r_state w.toNatClampNeg), 0))))
set_option maxHeartbeats 4000000 in
set_option maxRecDepth 100000 in
theorem mtX11_now (l : Launch) (D : va_G) (cI cB cK cS : ClassId) (Y : Nat → Nat) (R : va_W) (m_thrown : Int32) (m_status : Int32) (m_isThere : Int32) (m_kinds : Int32) (m_newKinds : Int32) (m_print : Int32) (m_low : Int32) (m_high : Int32) (m_lot : Int32) (m_taped : Int32) (m_latest : Int32) (m_length : Int32) (m_cursor : Int32) (m_token : Int32) (m_from : Int32) (m_till : Int32) (m_fault : Int32) (m_faultAt : Int32) (m_traced : Int32) (r_lane : Nat → Int32) (r_many : Nat → Int32) (r_item : Nat → Int32) (r_market : Nat → Int32) (r_of : Nat → Int32) (r_newMarket : Nat → Int32) (r_newStart : Nat → Int32) (r_newOf : Nat → Int32) (r_newCoin : Nat → Int32) (r_state : Nat → Int32) (r_kept : Nat → Int32) (r_tape : Nat → Int32) (r_brings : Nat → Int32) (r_seen : Nat → Int32) (r_seenOut : Nat → Int32) (r_trace : Nat → Int32) (w : Int32) : MX l yX11_now wsX11_now (rmX 2) D (tyX cI cB cK cS) pF0 (mdW Y cI m_thrown m_status m_isThere m_kinds m_newKinds m_print m_low m_high m_lot m_taped m_latest m_length m_cursor m_token m_from m_till m_fault m_faultAt m_traced r_lane r_many r_item r_market r_of r_newMarket r_newStart r_newOf r_newCoin r_state r_kept r_tape r_brings r_seen r_seenOut r_trace ++ R) [.ref (Y 0), .int w] (sX11_now w m_isThere r_state) (fun u => some (.int u.1)) (fun u => mdW Y cI u.2 m_status m_isThere m_kinds m_newKinds m_print m_low m_high m_lot m_taped m_latest m_length m_cursor m_token m_from m_till m_fault m_faultAt m_traced r_lane r_many r_item r_market r_of r_newMarket r_newStart r_newOf r_newCoin r_state r_kept r_tape r_brings r_seen r_seenOut r_trace ++ R) := by
  refine mx_intro (cc := cX11_now) (maxL := 2) (ret := (some .int)) (by decide) rfl (Nat.le_of_ble_eq_true rfl) ?_
  intro p e s m below meth c A ls H locs Qm hQm hx hb hr hml hts hown hlocks hA hS hP hK hD hF hl
  have hown : s.vm.findClass RX11 = some m.cls := hown
  have hl : lv_has ls 2 [(0, .ref (Y 0)), (1, .int w)] := hl
  have k58 := hts (.fieldLink RX11 58 "PigRoundsModel" "thrown" "I") (by decide +kernel)
  have k237 := hts (.constantLong RX11 237 (6)) (by decide +kernel)
  have k176 := hts (.fieldLink RX11 176 "PigRoundsModel" "isThere" "Z") (by decide +kernel)
  have k231 := hts (.constant RX11 231 (-1000002)) (by decide +kernel)
  have k37 := hts (.fieldLink RX11 37 "PigRoundsModel" "state" "[I") (by decide +kernel)
  have k78 := hts (.constant RX11 78 (-1000001)) (by decide +kernel)
  have iX11 : ∀ w ∈ u_ws RX11 TX11 35, w ∈ wsX11_now := by decide +kernel
  refine lv_aload_n hx hb dX11_now_0 rfl (lv_at hl 0 rfl) ?_
  refine lv_iconst (v := 0) hx hb dX11_now_1 (by decide) ?_
  refine va_put (D := D) (ci := 9) (v := .int 0) (ty := .int) (C := RX11) (T := TX11) (N := 35) hx hb hts iX11 tyX11 tyX11_ok nmX11 hown hK hP hD hS 0 rfl rfl 0 (by decide) k58 (fun _ h9 => h9) rfl (by decide +kernel) rfl rfl (Nat.le_of_ble_eq_true rfl) dX11_now_2 (fun H locs hP hD hS => ?_)
  have hP : va_P D vwCl (mdW Y cI 0 m_status m_isThere m_kinds m_newKinds m_print m_low m_high m_lot m_taped m_latest m_length m_cursor m_token m_from m_till m_fault m_faultAt m_traced r_lane r_many r_item r_market r_of r_newMarket r_newStart r_newOf r_newCoin r_state r_kept r_tape r_brings r_seen r_seenOut r_trace ++ R) H := hP
  have hD : va_D A (mdW Y cI 0 m_status m_isThere m_kinds m_newKinds m_print m_low m_high m_lot m_taped m_latest m_length m_cursor m_token m_from m_till m_fault m_faultAt m_traced r_lane r_many r_item r_market r_of r_newMarket r_newStart r_newOf r_newCoin r_state r_kept r_tape r_brings r_seen r_seenOut r_trace ++ R) := hD
  refine lv_iload_n hx hb dX11_now_5 rfl (lv_at hl 1 rfl) ?_
  refine lv_i2l (v := w.toInt64) hx hb dX11_now_6 rfl ?_
  refine lv_lconst (v := 0) hx hb dX11_now_7 (by decide) ?_
  refine lv_ldc2 (v := 6) hx hb hown k237 dX11_now_8 ?_
  refine mx_callS (As := [.long w.toInt64, .long 0, .long 6]) (rest := []) ⟨hx, hb, hml, hown, hts⟩ (mtX11_in l D cI cB cK cS (mdW Y cI 0 m_status m_isThere m_kinds m_newKinds m_print m_low m_high m_lot m_taped m_latest m_length m_cursor m_token m_from m_till m_fault m_faultAt m_traced r_lane r_many r_item r_market r_of r_newMarket r_newStart r_newOf r_newCoin r_state r_kept r_tape r_brings r_seen r_seenOut r_trace ++ R) w.toInt64 0 6) (va_cwS 3 hts gX11_now_X11_in rfl rfl rfl (by decide +kernel) ⟨Nat.le_of_ble_eq_true rfl, Nat.le_of_ble_eq_true rfl⟩) pF0_ok trivial hK hP hD hS hA rfl hl.1 rfl (Nat.le_of_ble_eq_true rfl) dX11_now_11 ⟨Nat.le_refl _, Nat.le_refl _⟩ (fun u_1 H locs eu_1 hP hD hS => ?_)
  refine W.eq (g2 := F0 m 14 ls [.int u_1]) rfl ?_
  have hP : va_P D vwCl (mdW Y cI 0 m_status m_isThere m_kinds m_newKinds m_print m_low m_high m_lot m_taped m_latest m_length m_cursor m_token m_from m_till m_fault m_faultAt m_traced r_lane r_many r_item r_market r_of r_newMarket r_newStart r_newOf r_newCoin r_state r_kept r_tape r_brings r_seen r_seenOut r_trace ++ R) H := hP
  have hD : va_D A (mdW Y cI 0 m_status m_isThere m_kinds m_newKinds m_print m_low m_high m_lot m_taped m_latest m_length m_cursor m_token m_from m_till m_fault m_faultAt m_traced r_lane r_many r_item r_market r_of r_newMarket r_newStart r_newOf r_newCoin r_state r_kept r_tape r_brings r_seen r_seenOut r_trace ++ R) := hD
  refine lv_if_ne (tgt := 22) hx hb dX11_now_14 (by decide) (fun c_2 => ?_) (fun c_2 => ?_)
  · have d_2 := i_eqn rfl (show (0 : Int32).toInt = 0 from by decide) c_2
    have dt_2 := sX11_in_t ((Int32.toInt_toInt64 _).trans rfl) (show (0 : Int64).toInt = 0 from by decide) (show (6 : Int64).toInt = 6 from by decide) eu_1 c_2
    refine lv_aload_n hx hb dX11_now_22 rfl (lv_at hl 0 rfl) ?_
    refine va_get (D := D) (ci := 9) (v := .int m_isThere) (C := RX11) (T := TX11) (N := 35) hx hb hts iX11 hown hK hP 0 rfl rfl 5 (by decide) k176 (fun _ h9 => h9) rfl dX11_now_23 ?_
    refine lv_if_eq (tgt := 38) hx hb dX11_now_26 (by decide) (fun c_3 => ?_) (fun c_3 => ?_)
    · have d_3 := i_eq rfl (show (0 : Int32).toInt = 0 from by decide) c_3
      refine lv_ldc (v := (-1000002)) hx hb hown k231 dX11_now_38 ?_
      rw [hQm]
      exact mx_iret (u0 := sX11_now w m_isThere r_state) (rv := (fun u => some (.int u.1))) (w1 := (fun u => mdW Y cI u.2 m_status m_isThere m_kinds m_newKinds m_print m_low m_high m_lot m_taped m_latest m_length m_cursor m_token m_from m_till m_fault m_faultAt m_traced r_lane r_many r_item r_market r_of r_newMarket r_newStart r_newOf r_newCoin r_state r_kept r_tape r_brings r_seen r_seenOut r_trace ++ R)) (u := ((-1000002), 0)) hx hb hr hlocks hK hS (lt_eq eu_1 ((if_neg c_2).trans ((if_pos c_3).trans rfl))) hP hD rfl dX11_now_40
    · have d_3 := i_eqn rfl (show (0 : Int32).toInt = 0 from by decide) c_3
      refine lv_aload_n hx hb dX11_now_29 rfl (lv_at hl 0 rfl) ?_
      refine va_get (D := D) (ci := 9) (v := .ref (Y 14)) (C := RX11) (T := TX11) (N := 35) hx hb hts iX11 hown hK hP 0 rfl rfl 14 (by decide) k37 (fun _ h9 => h9) rfl dX11_now_30 ?_
      refine lv_iload_n hx hb dX11_now_33 rfl (lv_at hl 1 rfl) ?_
      have q_4 : vp_in w 17 := vp_in_iff.mpr ⟨by omega, by omega⟩
      refine va_iald hx hb hK hP 10 0 rfl rfl q_4 dX11_now_34 ?_
      refine lv_goto (tgt := 40) hx hb dX11_now_35 (by decide) ?_
      rw [hQm]
      exact mx_iret (u0 := sX11_now w m_isThere r_state) (rv := (fun u => some (.int u.1))) (w1 := (fun u => mdW Y cI u.2 m_status m_isThere m_kinds m_newKinds m_print m_low m_high m_lot m_taped m_latest m_length m_cursor m_token m_from m_till m_fault m_faultAt m_traced r_lane r_many r_item r_market r_of r_newMarket r_newStart r_newOf r_newCoin r_state r_kept r_tape r_brings r_seen r_seenOut r_trace ++ R)) (u := ((r_state w.toNatClampNeg), 0)) hx hb hr hlocks hK hS (lt_eq eu_1 ((if_neg c_2).trans ((if_neg c_3).trans rfl))) hP hD rfl dX11_now_40
  · have d_2 := i_eq rfl (show (0 : Int32).toInt = 0 from by decide) c_2
    refine lv_ldc (v := (-1000001)) hx hb hown k78 dX11_now_17 ?_
    refine lv_goto (tgt := 40) hx hb dX11_now_19 (by decide) ?_
    rw [hQm]
    exact mx_iret (u0 := sX11_now w m_isThere r_state) (rv := (fun u => some (.int u.1))) (w1 := (fun u => mdW Y cI u.2 m_status m_isThere m_kinds m_newKinds m_print m_low m_high m_lot m_taped m_latest m_length m_cursor m_token m_from m_till m_fault m_faultAt m_traced r_lane r_many r_item r_market r_of r_newMarket r_newStart r_newOf r_newCoin r_state r_kept r_tape r_brings r_seen r_seenOut r_trace ++ R)) (u := ((-1000001), 0)) hx hb hr hlocks hK hS (lt_eq eu_1 ((if_pos c_2).trans rfl)) hP hD rfl dX11_now_40

def sX11_size (v : Int64) : Int64 := if 0 ≤ (lg_cmp v 0) then ((v)) else ((-v))
set_option maxHeartbeats 4000000 in
set_option maxRecDepth 100000 in
theorem mtX11_size (l : Launch) (D : va_G) (cI cB cK cS : ClassId) (ws : va_W)  (v : Int64) : MX l yX11_size wsX11_size (rmX 1) D (tyX cI cB cK cS) pF0 (ws) [.long v] (sX11_size v) (fun u => some (.long u)) (fun _ => ws) := by
  refine mx_intro (cc := cX11_size) (maxL := 2) (ret := (some .long)) (by decide) rfl (Nat.le_of_ble_eq_true rfl) ?_
  intro p e s m below meth c A ls H locs Qm hQm hx hb hr hml hts hown hlocks hA hS hP hK hD hF hl
  have hown : s.vm.findClass RX11 = some m.cls := hown
  have hl : lv_has ls 2 [(0, .long v)] := hl
  refine lv_lload_n hx hb dX11_size_0 rfl (lv_at hl 0 rfl) ?_
  refine lv_lconst (v := 0) hx hb dX11_size_1 (by decide) ?_
  refine W.lcmp hx hb dX11_size_2 ?_
  refine lv_if_ge (tgt := 11) hx hb dX11_size_3 (by decide) (fun c_1 => ?_) (fun c_1 => ?_)
  · refine lv_lload_n hx hb dX11_size_11 rfl (lv_at hl 0 rfl) ?_
    rw [hQm]
    exact mx_lret (u0 := sX11_size v) (rv := (fun u => some (.long u))) (w1 := (fun _ => ws)) (u := (v)) hx hb hr hlocks hK hS ((if_pos c_1).trans rfl) hP hD rfl dX11_size_12
  · refine lv_lload_n hx hb dX11_size_6 rfl (lv_at hl 0 rfl) ?_
    refine lv_lneg hx hb dX11_size_7 ?_
    refine lv_goto (tgt := 12) hx hb dX11_size_8 (by decide) ?_
    rw [hQm]
    exact mx_lret (u0 := sX11_size v) (rv := (fun u => some (.long u))) (w1 := (fun _ => ws)) (u := (-v)) hx hb hr hlocks hK hS ((if_neg c_1).trans rfl) hP hD rfl dX11_size_12

def sX11_side (a : Int64) (b : Int64) : Int32 := if 0 ≤ (lg_cmp a b) then (if (lg_cmp a b) = 0 then ((0)) else ((1))) else (((-1)))
set_option maxHeartbeats 4000000 in
set_option maxRecDepth 100000 in
theorem mtX11_side (l : Launch) (D : va_G) (cI cB cK cS : ClassId) (ws : va_W)  (a : Int64) (b : Int64) : MX l yX11_side wsX11_side (rmX 1) D (tyX cI cB cK cS) pF0 (ws) [.long a, .long b] (sX11_side a b) (fun u => some (.int u)) (fun _ => ws) := by
  refine mx_intro (cc := cX11_side) (maxL := 4) (ret := (some .int)) (by decide) rfl (Nat.le_of_ble_eq_true rfl) ?_
  intro p e s m below meth c A ls H locs Qm hQm hx hb hr hml hts hown hlocks hA hS hP hK hD hF hl
  have hown : s.vm.findClass RX11 = some m.cls := hown
  have hl : lv_has ls 4 [(0, .long a), (2, .long b)] := hl
  refine lv_lload_n hx hb dX11_side_0 rfl (lv_at hl 0 rfl) ?_
  refine lv_lload_n hx hb dX11_side_1 rfl (lv_at hl 1 rfl) ?_
  refine W.lcmp hx hb dX11_side_2 ?_
  refine lv_if_ge (tgt := 10) hx hb dX11_side_3 (by decide) (fun c_1 => ?_) (fun c_1 => ?_)
  · refine lv_lload_n hx hb dX11_side_10 rfl (lv_at hl 0 rfl) ?_
    refine lv_lload_n hx hb dX11_side_11 rfl (lv_at hl 1 rfl) ?_
    refine W.lcmp hx hb dX11_side_12 ?_
    refine lv_if_ne (tgt := 20) hx hb dX11_side_13 (by decide) (fun c_2 => ?_) (fun c_2 => ?_)
    · refine lv_iconst (v := 1) hx hb dX11_side_20 (by decide) ?_
      rw [hQm]
      exact mx_iret (u0 := sX11_side a b) (rv := (fun u => some (.int u))) (w1 := (fun _ => ws)) (u := (1)) hx hb hr hlocks hK hS ((if_pos c_1).trans ((if_neg c_2).trans rfl)) hP hD rfl dX11_side_21
    · refine lv_iconst (v := 0) hx hb dX11_side_16 (by decide) ?_
      refine lv_goto (tgt := 21) hx hb dX11_side_17 (by decide) ?_
      rw [hQm]
      exact mx_iret (u0 := sX11_side a b) (rv := (fun u => some (.int u))) (w1 := (fun _ => ws)) (u := (0)) hx hb hr hlocks hK hS ((if_pos c_1).trans ((if_pos c_2).trans rfl)) hP hD rfl dX11_side_21
  · refine lv_iconst (v := (-1)) hx hb dX11_side_6 (by decide) ?_
    refine lv_goto (tgt := 21) hx hb dX11_side_7 (by decide) ?_
    rw [hQm]
    exact mx_iret (u0 := sX11_side a b) (rv := (fun u => some (.int u))) (w1 := (fun _ => ws)) (u := ((-1))) hx hb hr hlocks hK hS ((if_neg c_1).trans rfl) hP hD rfl dX11_side_21

def lX11_see_42 (t : Int32) (m_kinds : Int32) (r_state : Nat → Int32) : Nat → Int32 → (Nat → Int32) → Int32 × (Nat → Int32)
  | 0, x2_42, r_seenOut_42 => (x2_42, r_seenOut_42)
  | n + 1, x2_42, r_seenOut_42 => if m_kinds ≤ x2_42 then ((x2_42, r_seenOut_42)) else (lt ((r_seenOut_42 t.toNatClampNeg) ||| ((r_state (12 + x2_42).toNatClampNeg) <<< (x2_42 &&& 31))) (fun x_12 : Int32 => lt (upd r_seenOut_42 t.toNatClampNeg x_12) (fun ar_14 : Nat → Int32 => lt (x2_42 + 1) (fun x_15 : Int32 => lX11_see_42 t m_kinds r_state n x_15 ar_14))))

def sX11_see (t : Int32) (m_kinds : Int32) (r_state : Nat → Int32) (r_seen : Nat → Int32) (r_seenOut : Nat → Int32) : (Nat → Int32) × (Nat → Int32) := lt (((10000 * (r_state 0)) + (100 * (r_state 1))) + (r_state 2)) (fun x_4 : Int32 => lt (upd r_seen t.toNatClampNeg x_4) (fun ar_6 : Nat → Int32 => lt (upd r_seenOut t.toNatClampNeg 0) (fun ar_8 : Nat → Int32 => lt (lX11_see_42 t m_kinds r_state 6 0 ar_8) (fun u_16 : Int32 × (Nat → Int32) => (ar_6, u_16.2)))))
set_option maxHeartbeats 4000000 in
set_option maxRecDepth 100000 in
theorem mtX11_see (l : Launch) (D : va_G) (cI cB cK cS : ClassId) (Y : Nat → Nat) (R : va_W) (m_thrown : Int32) (m_status : Int32) (m_isThere : Int32) (m_kinds : Int32) (m_newKinds : Int32) (m_print : Int32) (m_low : Int32) (m_high : Int32) (m_lot : Int32) (m_taped : Int32) (m_latest : Int32) (m_length : Int32) (m_cursor : Int32) (m_token : Int32) (m_from : Int32) (m_till : Int32) (m_fault : Int32) (m_faultAt : Int32) (m_traced : Int32) (r_lane : Nat → Int32) (r_many : Nat → Int32) (r_item : Nat → Int32) (r_market : Nat → Int32) (r_of : Nat → Int32) (r_newMarket : Nat → Int32) (r_newStart : Nat → Int32) (r_newOf : Nat → Int32) (r_newCoin : Nat → Int32) (r_state : Nat → Int32) (r_kept : Nat → Int32) (r_tape : Nat → Int32) (r_brings : Nat → Int32) (r_seen : Nat → Int32) (r_seenOut : Nat → Int32) (r_trace : Nat → Int32) (t : Int32) (hkd : m_kinds.toInt ≤ 5) (ht0 : 0 ≤ t.toInt) (ht1 : t.toInt < 61) : MX l yX11_see wsX11_see (rmX 1) D (tyX cI cB cK cS) pF0 (mdW Y cI m_thrown m_status m_isThere m_kinds m_newKinds m_print m_low m_high m_lot m_taped m_latest m_length m_cursor m_token m_from m_till m_fault m_faultAt m_traced r_lane r_many r_item r_market r_of r_newMarket r_newStart r_newOf r_newCoin r_state r_kept r_tape r_brings r_seen r_seenOut r_trace ++ R) [.ref (Y 0), .int t] (sX11_see t m_kinds r_state r_seen r_seenOut) (fun _ => none) (fun u => mdW Y cI m_thrown m_status m_isThere m_kinds m_newKinds m_print m_low m_high m_lot m_taped m_latest m_length m_cursor m_token m_from m_till m_fault m_faultAt m_traced r_lane r_many r_item r_market r_of r_newMarket r_newStart r_newOf r_newCoin r_state r_kept r_tape r_brings u.1 u.2 r_trace ++ R) := by
  refine mx_intro (cc := cX11_see) (maxL := 3) (ret := none) (by decide) rfl (Nat.le_of_ble_eq_true rfl) ?_
  intro p e s m below meth c A ls H locs Qm hQm hx hb hr hml hts hown hlocks hA hS hP hK hD hF hl
  have hown : s.vm.findClass RX11 = some m.cls := hown
  have hl : lv_has ls 3 [(0, .ref (Y 0)), (1, .int t)] := hl
  have k49 := hts (.fieldLink RX11 49 "PigRoundsModel" "seen" "[I") (by decide +kernel)
  have k37 := hts (.fieldLink RX11 37 "PigRoundsModel" "state" "[I") (by decide +kernel)
  have k52 := hts (.fieldLink RX11 52 "PigRoundsModel" "seenOut" "[I") (by decide +kernel)
  have k180 := hts (.fieldLink RX11 180 "PigRoundsModel" "kinds" "I") (by decide +kernel)
  have iX11 : ∀ w ∈ u_ws RX11 TX11 35, w ∈ wsX11_see := by decide +kernel
  refine lv_aload_n hx hb dX11_see_0 rfl (lv_at hl 0 rfl) ?_
  refine va_get (D := D) (ci := 9) (v := .ref (Y 31)) (C := RX11) (T := TX11) (N := 35) hx hb hts iX11 hown hK hP 0 rfl rfl 31 (by decide) k49 (fun _ h9 => h9) rfl dX11_see_1 ?_
  refine lv_iload_n hx hb dX11_see_4 rfl (lv_at hl 1 rfl) ?_
  refine lv_sipush (v := 10000) hx hb dX11_see_5 (by decide) ?_
  refine lv_aload_n hx hb dX11_see_8 rfl (lv_at hl 0 rfl) ?_
  refine va_get (D := D) (ci := 9) (v := .ref (Y 14)) (C := RX11) (T := TX11) (N := 35) hx hb hts iX11 hown hK hP 0 rfl rfl 14 (by decide) k37 (fun _ h9 => h9) rfl dX11_see_9 ?_
  refine lv_iconst (v := 0) hx hb dX11_see_12 (by decide) ?_
  have q_1 : vp_in (0 : Int32) 17 := vp_in_iff.mpr (by decide)
  refine va_iald hx hb hK hP 10 0 rfl rfl q_1 dX11_see_13 ?_
  refine W.eq (g2 := F0 m 14 ls [.int (r_state 0), .int 10000, .int t, .ref (Y 31)]) rfl ?_
  refine lv_imul hx hb dX11_see_14 ?_
  refine lv_bipush (v := 100) hx hb dX11_see_15 (by decide) ?_
  refine lv_aload_n hx hb dX11_see_17 rfl (lv_at hl 0 rfl) ?_
  refine va_get (D := D) (ci := 9) (v := .ref (Y 14)) (C := RX11) (T := TX11) (N := 35) hx hb hts iX11 hown hK hP 0 rfl rfl 14 (by decide) k37 (fun _ h9 => h9) rfl dX11_see_18 ?_
  refine lv_iconst (v := 1) hx hb dX11_see_21 (by decide) ?_
  have q_2 : vp_in (1 : Int32) 17 := vp_in_iff.mpr (by decide)
  refine va_iald hx hb hK hP 10 0 rfl rfl q_2 dX11_see_22 ?_
  refine W.eq (g2 := F0 m 23 ls [.int (r_state 1), .int 100, .int (10000 * (r_state 0)), .int t, .ref (Y 31)]) rfl ?_
  refine lv_imul hx hb dX11_see_23 ?_
  refine lv_iadd hx hb dX11_see_24 ?_
  refine lv_aload_n hx hb dX11_see_25 rfl (lv_at hl 0 rfl) ?_
  refine va_get (D := D) (ci := 9) (v := .ref (Y 14)) (C := RX11) (T := TX11) (N := 35) hx hb hts iX11 hown hK hP 0 rfl rfl 14 (by decide) k37 (fun _ h9 => h9) rfl dX11_see_26 ?_
  refine lv_iconst (v := 2) hx hb dX11_see_29 (by decide) ?_
  have q_3 : vp_in (2 : Int32) 17 := vp_in_iff.mpr (by decide)
  refine va_iald hx hb hK hP 10 0 rfl rfl q_3 dX11_see_30 ?_
  refine W.eq (g2 := F0 m 31 ls [.int (r_state 2), .int ((10000 * (r_state 0)) + (100 * (r_state 1))), .int t, .ref (Y 31)]) rfl ?_
  refine lv_iadd hx hb dX11_see_31 ?_
  refine lv_topi (fun x_4 ex_4 => ?_)
  have q_5 : vp_in t 61 := vp_in_iff.mpr ⟨by omega, by omega⟩
  refine va_iast hx hb hK hP hD hS 14 0 rfl rfl q_5 dX11_see_32 (fun H locs hP hD hS => ?_)
  obtain ⟨ar_6, ear_6⟩ : ∃ z : Nat → Int32, z = upd r_seen t.toNatClampNeg x_4 := ⟨_, rfl⟩
  have hP : va_P D vwCl (mdW Y cI m_thrown m_status m_isThere m_kinds m_newKinds m_print m_low m_high m_lot m_taped m_latest m_length m_cursor m_token m_from m_till m_fault m_faultAt m_traced r_lane r_many r_item r_market r_of r_newMarket r_newStart r_newOf r_newCoin r_state r_kept r_tape r_brings (upd r_seen t.toNatClampNeg x_4) r_seenOut r_trace ++ R) H := hP
  have hD : va_D A (mdW Y cI m_thrown m_status m_isThere m_kinds m_newKinds m_print m_low m_high m_lot m_taped m_latest m_length m_cursor m_token m_from m_till m_fault m_faultAt m_traced r_lane r_many r_item r_market r_of r_newMarket r_newStart r_newOf r_newCoin r_state r_kept r_tape r_brings (upd r_seen t.toNatClampNeg x_4) r_seenOut r_trace ++ R) := hD
  rw [← ear_6] at hP hD
  have hP : va_P D vwCl (mdW Y cI m_thrown m_status m_isThere m_kinds m_newKinds m_print m_low m_high m_lot m_taped m_latest m_length m_cursor m_token m_from m_till m_fault m_faultAt m_traced r_lane r_many r_item r_market r_of r_newMarket r_newStart r_newOf r_newCoin r_state r_kept r_tape r_brings ar_6 r_seenOut r_trace ++ R) H := hP
  have hD : va_D A (mdW Y cI m_thrown m_status m_isThere m_kinds m_newKinds m_print m_low m_high m_lot m_taped m_latest m_length m_cursor m_token m_from m_till m_fault m_faultAt m_traced r_lane r_many r_item r_market r_of r_newMarket r_newStart r_newOf r_newCoin r_state r_kept r_tape r_brings ar_6 r_seenOut r_trace ++ R) := hD
  refine lv_aload_n hx hb dX11_see_33 rfl (lv_at hl 0 rfl) ?_
  refine va_get (D := D) (ci := 9) (v := .ref (Y 32)) (C := RX11) (T := TX11) (N := 35) hx hb hts iX11 hown hK hP 0 rfl rfl 32 (by decide) k52 (fun _ h9 => h9) rfl dX11_see_34 ?_
  refine lv_iload_n hx hb dX11_see_37 rfl (lv_at hl 1 rfl) ?_
  refine lv_iconst (v := 0) hx hb dX11_see_38 (by decide) ?_
  have q_7 : vp_in t 61 := vp_in_iff.mpr ⟨by omega, by omega⟩
  refine va_iast hx hb hK hP hD hS 15 0 rfl rfl q_7 dX11_see_39 (fun H locs hP hD hS => ?_)
  obtain ⟨ar_8, ear_8⟩ : ∃ z : Nat → Int32, z = upd r_seenOut t.toNatClampNeg 0 := ⟨_, rfl⟩
  have hP : va_P D vwCl (mdW Y cI m_thrown m_status m_isThere m_kinds m_newKinds m_print m_low m_high m_lot m_taped m_latest m_length m_cursor m_token m_from m_till m_fault m_faultAt m_traced r_lane r_many r_item r_market r_of r_newMarket r_newStart r_newOf r_newCoin r_state r_kept r_tape r_brings ar_6 (upd r_seenOut t.toNatClampNeg 0) r_trace ++ R) H := hP
  have hD : va_D A (mdW Y cI m_thrown m_status m_isThere m_kinds m_newKinds m_print m_low m_high m_lot m_taped m_latest m_length m_cursor m_token m_from m_till m_fault m_faultAt m_traced r_lane r_many r_item r_market r_of r_newMarket r_newStart r_newOf r_newCoin r_state r_kept r_tape r_brings ar_6 (upd r_seenOut t.toNatClampNeg 0) r_trace ++ R) := hD
  rw [← ear_8] at hP hD
  have hP : va_P D vwCl (mdW Y cI m_thrown m_status m_isThere m_kinds m_newKinds m_print m_low m_high m_lot m_taped m_latest m_length m_cursor m_token m_from m_till m_fault m_faultAt m_traced r_lane r_many r_item r_market r_of r_newMarket r_newStart r_newOf r_newCoin r_state r_kept r_tape r_brings ar_6 ar_8 r_trace ++ R) H := hP
  have hD : va_D A (mdW Y cI m_thrown m_status m_isThere m_kinds m_newKinds m_print m_low m_high m_lot m_taped m_latest m_length m_cursor m_token m_from m_till m_fault m_faultAt m_traced r_lane r_many r_item r_market r_of r_newMarket r_newStart r_newOf r_newCoin r_state r_kept r_tape r_brings ar_6 ar_8 r_trace ++ R) := hD
  refine lv_iconst (v := 0) hx hb dX11_see_40 (by decide) ?_
  refine lv_istore_n (lv' := [(2, .int 0), (0, .ref (Y 0)), (1, .int t)]) hx hb dX11_see_41 rfl hl (by decide) rfl (fun ls hl => ?_)
  have L_42 : ∀ (n : Nat) (x2_42 : Int32) (r_seenOut_42 : Nat → Int32) (H : Heap) (locs : List Loc) (ls : Array Slot), 0 ≤ x2_42.toInt → x2_42.toInt ≤ 5 → (5 : Int) < x2_42.toInt + ((n : Nat) : Int) → va_P D vwCl (mdW Y cI m_thrown m_status m_isThere m_kinds m_newKinds m_print m_low m_high m_lot m_taped m_latest m_length m_cursor m_token m_from m_till m_fault m_faultAt m_traced r_lane r_many r_item r_market r_of r_newMarket r_newStart r_newOf r_newCoin r_state r_kept r_tape r_brings ar_6 r_seenOut_42 r_trace ++ R) H → va_D A (mdW Y cI m_thrown m_status m_isThere m_kinds m_newKinds m_print m_low m_high m_lot m_taped m_latest m_length m_cursor m_token m_from m_till m_fault m_faultAt m_traced r_lane r_many r_item r_market r_of r_newMarket r_newStart r_newOf r_newCoin r_state r_kept r_tape r_brings ar_6 r_seenOut_42 r_trace ++ R) → va_S A s.heap H locs → lv_has ls 3 [(2, .int x2_42), (0, .ref (Y 0)), (1, .int t)] → (∀ (u : Int32 × (Nat → Int32)) (H : Heap) (locs : List Loc) (ls : Array Slot), u = lX11_see_42 t m_kinds r_state n x2_42 r_seenOut_42 → va_P D vwCl (mdW Y cI m_thrown m_status m_isThere m_kinds m_newKinds m_print m_low m_high m_lot m_taped m_latest m_length m_cursor m_token m_from m_till m_fault m_faultAt m_traced r_lane r_many r_item r_market r_of r_newMarket r_newStart r_newOf r_newCoin r_state r_kept r_tape r_brings ar_6 u.2 r_trace ++ R) H → va_D A (mdW Y cI m_thrown m_status m_isThere m_kinds m_newKinds m_print m_low m_high m_lot m_taped m_latest m_length m_cursor m_token m_from m_till m_fault m_faultAt m_traced r_lane r_many r_item r_market r_of r_newMarket r_newStart r_newOf r_newCoin r_state r_kept r_tape r_brings ar_6 u.2 r_trace ++ R) → va_S A s.heap H locs → lv_has ls 3 [] → W p l e (rmX 1) s m ([.ref (Y 0), .int t] : List Value).toArray below meth c H locs 0 0 Qm (F0 m 76 ls [])) → W p l e (rmX 1) s m ([.ref (Y 0), .int t] : List Value).toArray below meth c H locs 0 0 Qm (F0 m 42 ls []) := by
    intro n
    induction n with
    | zero =>
      intro x2_42 r_seenOut_42 H locs ls iv_42_0 iv_42_1 iv_42_2 hP hD hS hl kont_42
      exfalso; omega
    | succ n ih_42 =>
      intro x2_42 r_seenOut_42 H locs ls iv_42_0 iv_42_1 iv_42_2 hP hD hS hl kont_42
      refine lv_iload_n hx hb dX11_see_42 rfl (lv_at hl 0 rfl) ?_
      refine lv_aload_n hx hb dX11_see_43 rfl (lv_at hl 1 rfl) ?_
      refine va_get (D := D) (ci := 9) (v := .int m_kinds) (C := RX11) (T := TX11) (N := 35) hx hb hts iX11 hown hK hP 0 rfl rfl 6 (by decide) k180 (fun _ h9 => h9) rfl dX11_see_44 ?_
      refine lv_icmp_ge (tgt := 76) hx hb dX11_see_47 (by decide) (fun c_9 => ?_) (fun c_9 => ?_)
      · have d_9 := i_le rfl rfl c_9
        exact kont_42 (x2_42, r_seenOut_42) H locs ls (show lX11_see_42 t m_kinds r_state (n + 1) x2_42 r_seenOut_42 = (x2_42, r_seenOut_42) from ((if_pos c_9).trans rfl)).symm  hP hD hS (lv_sub hl [] rfl)
      · have d_9 := i_len rfl rfl c_9
        refine lv_aload_n hx hb dX11_see_50 rfl (lv_at hl 1 rfl) ?_
        refine va_get (D := D) (ci := 9) (v := .ref (Y 32)) (C := RX11) (T := TX11) (N := 35) hx hb hts iX11 hown hK hP 0 rfl rfl 32 (by decide) k52 (fun _ h9 => h9) rfl dX11_see_51 ?_
        refine lv_iload_n hx hb dX11_see_54 rfl (lv_at hl 2 rfl) ?_
        refine lv_dup2_11 hx hb dX11_see_55 rfl rfl ?_
        have q_10 : vp_in t 61 := vp_in_iff.mpr ⟨by omega, by omega⟩
        refine va_iald hx hb hK hP 15 0 rfl rfl q_10 dX11_see_56 ?_
        refine lv_aload_n hx hb dX11_see_57 rfl (lv_at hl 1 rfl) ?_
        refine va_get (D := D) (ci := 9) (v := .ref (Y 14)) (C := RX11) (T := TX11) (N := 35) hx hb hts iX11 hown hK hP 0 rfl rfl 14 (by decide) k37 (fun _ h9 => h9) rfl dX11_see_58 ?_
        refine lv_bipush (v := 12) hx hb dX11_see_61 (by decide) ?_
        refine lv_iload_n hx hb dX11_see_63 rfl (lv_at hl 0 rfl) ?_
        refine lv_iadd hx hb dX11_see_64 ?_
        have q_11 : vp_in (12 + x2_42) 17 := vp_in_iff.mpr (by rw [show (12 + x2_42).toInt = (12 + x2_42.toInt) from (i_addv (show (12 : Int32).toInt = 12 from by decide) rfl (by omega) (by omega))]; constructor <;> omega)
        refine va_iald hx hb hK hP 10 0 rfl rfl q_11 dX11_see_65 ?_
        refine lv_iload_n hx hb dX11_see_66 rfl (lv_at hl 0 rfl) ?_
        refine lv_ishl hx hb dX11_see_67 ?_
        refine lv_ior hx hb dX11_see_68 ?_
        refine lv_topi (fun x_12 ex_12 => ?_)
        have q_13 : vp_in t 61 := vp_in_iff.mpr ⟨by omega, by omega⟩
        refine va_iast hx hb hK hP hD hS 15 0 rfl rfl q_13 dX11_see_69 (fun H locs hP hD hS => ?_)
        obtain ⟨ar_14, ear_14⟩ : ∃ z : Nat → Int32, z = upd r_seenOut_42 t.toNatClampNeg x_12 := ⟨_, rfl⟩
        have hP : va_P D vwCl (mdW Y cI m_thrown m_status m_isThere m_kinds m_newKinds m_print m_low m_high m_lot m_taped m_latest m_length m_cursor m_token m_from m_till m_fault m_faultAt m_traced r_lane r_many r_item r_market r_of r_newMarket r_newStart r_newOf r_newCoin r_state r_kept r_tape r_brings ar_6 (upd r_seenOut_42 t.toNatClampNeg x_12) r_trace ++ R) H := hP
        have hD : va_D A (mdW Y cI m_thrown m_status m_isThere m_kinds m_newKinds m_print m_low m_high m_lot m_taped m_latest m_length m_cursor m_token m_from m_till m_fault m_faultAt m_traced r_lane r_many r_item r_market r_of r_newMarket r_newStart r_newOf r_newCoin r_state r_kept r_tape r_brings ar_6 (upd r_seenOut_42 t.toNatClampNeg x_12) r_trace ++ R) := hD
        rw [← ear_14] at hP hD
        have hP : va_P D vwCl (mdW Y cI m_thrown m_status m_isThere m_kinds m_newKinds m_print m_low m_high m_lot m_taped m_latest m_length m_cursor m_token m_from m_till m_fault m_faultAt m_traced r_lane r_many r_item r_market r_of r_newMarket r_newStart r_newOf r_newCoin r_state r_kept r_tape r_brings ar_6 ar_14 r_trace ++ R) H := hP
        have hD : va_D A (mdW Y cI m_thrown m_status m_isThere m_kinds m_newKinds m_print m_low m_high m_lot m_taped m_latest m_length m_cursor m_token m_from m_till m_fault m_faultAt m_traced r_lane r_many r_item r_market r_of r_newMarket r_newStart r_newOf r_newCoin r_state r_kept r_tape r_brings ar_6 ar_14 r_trace ++ R) := hD
        obtain ⟨x_15, ex_15⟩ : ∃ z : Int32, z = x2_42 + 1 := ⟨_, rfl⟩
        refine lv_iinc (v := x_15) (lv' := [(2, .int x_15), (0, .ref (Y 0)), (1, .int t)]) hx hb dX11_see_70 hl (k := 0) rfl (by rw [ex_15]; rfl) (by decide) rfl (fun ls hl => ?_)
        refine lv_goto (tgt := 42) hx hb dX11_see_73 (by decide) ?_
        have tx_15 : x_15.toInt = x2_42.toInt + 1 := i_inc ex_15 (by decide) (by omega) (by omega)
        refine ih_42 x_15 ar_14 H locs ls (by omega) (by omega) (by omega) hP hD hS (lv_sub hl [0, 1, 2] rfl) (fun u H locs ls eu  hP hD hS hl => ?_)
        exact kont_42 u H locs ls (eu.trans (show lX11_see_42 t m_kinds r_state (n + 1) x2_42 r_seenOut_42 = lX11_see_42 t m_kinds r_state n x_15 ar_14 from ((if_neg c_9).trans (lt_eq ex_12 (lt_eq ear_14 (lt_eq ex_15 rfl))))).symm)  hP hD hS hl
  refine L_42 6 0 ar_8 H locs ls (by decide) (by decide) (by decide) hP hD hS (lv_sub hl [0, 1, 2] rfl) (fun u_16 H locs ls eu_16  hP hD hS hl => ?_)
  have hP : va_P D vwCl (mdW Y cI m_thrown m_status m_isThere m_kinds m_newKinds m_print m_low m_high m_lot m_taped m_latest m_length m_cursor m_token m_from m_till m_fault m_faultAt m_traced r_lane r_many r_item r_market r_of r_newMarket r_newStart r_newOf r_newCoin r_state r_kept r_tape r_brings ar_6 u_16.2 r_trace ++ R) H := hP
  have hD : va_D A (mdW Y cI m_thrown m_status m_isThere m_kinds m_newKinds m_print m_low m_high m_lot m_taped m_latest m_length m_cursor m_token m_from m_till m_fault m_faultAt m_traced r_lane r_many r_item r_market r_of r_newMarket r_newStart r_newOf r_newCoin r_state r_kept r_tape r_brings ar_6 u_16.2 r_trace ++ R) := hD
  rw [hQm]
  exact mx_vret (u0 := sX11_see t m_kinds r_state r_seen r_seenOut) (rv := (fun _ => none)) (w1 := (fun u => mdW Y cI m_thrown m_status m_isThere m_kinds m_newKinds m_print m_low m_high m_lot m_taped m_latest m_length m_cursor m_token m_from m_till m_fault m_faultAt m_traced r_lane r_many r_item r_market r_of r_newMarket r_newStart r_newOf r_newCoin r_state r_kept r_tape r_brings u.1 u.2 r_trace ++ R)) (u := (ar_6, u_16.2)) hx hb hr hlocks hK hS (lt_eq ex_4 (lt_eq ear_6 (lt_eq ear_8 (lt_eq eu_16 rfl)))) hP hD rfl dX11_see_76

def lX11_round_66 (w : Int32) (x3_42 : Int32) (u_9 : (Nat → Int32) × (Nat → Int32)) : Nat → Int32 → Int32 → Int32 × Int32
  | 0, x4_66, x2_66 => (x4_66, x2_66)
  | n + 1, x4_66, x2_66 => if 31 ≤ x4_66 then ((x4_66, x2_66)) else (if x3_42 < x4_66 then ((x4_66, x2_66)) else (if x2_66 = (-1000000) then (lt (if (u_9.1 x3_42.toNatClampNeg) = (u_9.1 (x3_42 - x4_66).toNatClampNeg) then (if (u_9.2 x3_42.toNatClampNeg) = (u_9.2 (x3_42 - x4_66).toNatClampNeg) then (if w = 0 then (x4_66) else (x3_42)) else ((-1000000))) else ((-1000000))) (fun y_17 : Int32 => lt (x4_66 + 1) (fun x_23 : Int32 => lX11_round_66 w x3_42 u_9 n x_23 y_17))) else ((x4_66, x2_66))))

def lX11_round_42 (w : Int32) (m_kinds : Int32) (m_print : Int32) (m_low : Int32) (m_high : Int32) (m_lot : Int32) (r_market : Nat → Int32) (r_of : Nat → Int32) : Nat → Int32 → Int32 → (Nat → Int32) → (Nat → Int32) → (Nat → Int32) → (Nat → Int32) → Int32 × Int32 × (Nat → Int32) × (Nat → Int32) × (Nat → Int32) × (Nat → Int32)
  | 0, x3_42, x2_42, r_state_42, r_brings_42, r_seen_42, r_seenOut_42 => (x3_42, x2_42, r_state_42, r_brings_42, r_seen_42, r_seenOut_42)
  | n + 1, x3_42, x2_42, r_state_42, r_brings_42, r_seen_42, r_seenOut_42 => if 61 ≤ x3_42 then ((x3_42, x2_42, r_state_42, r_brings_42, r_seen_42, r_seenOut_42)) else (if x2_42 = (-1000000) then (lt (sX11_year m_kinds m_print m_low m_high m_lot r_market r_of r_state_42 r_brings_42) (fun u_8 : (Nat → Int32) × (Nat → Int32) => lt (sX11_see x3_42 m_kinds u_8.1 r_seen_42 r_seenOut_42) (fun u_9 : (Nat → Int32) × (Nat → Int32) => lt (lX11_round_66 w x3_42 u_9 32 1 x2_42) (fun u_24 : Int32 × Int32 => lt (x3_42 + 1) (fun x_25 : Int32 => lX11_round_42 w m_kinds m_print m_low m_high m_lot r_market r_of n x_25 u_24.2 u_8.1 u_8.2 u_9.1 u_9.2))))) else ((x3_42, x2_42, r_state_42, r_brings_42, r_seen_42, r_seenOut_42)))

def sX11_round (w : Int32) (m_isThere : Int32) (m_kinds : Int32) (m_print : Int32) (m_low : Int32) (m_high : Int32) (m_lot : Int32) (r_market : Nat → Int32) (r_of : Nat → Int32) (r_state : Nat → Int32) (r_kept : Nat → Int32) (r_brings : Nat → Int32) (r_seen : Nat → Int32) (r_seenOut : Nat → Int32) : Int32 × (Int32) × (Nat → Int32) × (Nat → Int32) × (Nat → Int32) × (Nat → Int32) × (Nat → Int32) := lt (sX11_in w.toInt64 0 1) (fun u_1 : Int32 => if u_1 = 0 then (((-1000001), 0, r_state, r_kept, r_brings, r_seen, r_seenOut)) else (if m_isThere = 0 then (((-1000002), 0, r_state, r_kept, r_brings, r_seen, r_seenOut)) else (lt (sX11_keep r_state r_kept) (fun u_4 : (Nat → Int32) => lt (sX11_see 0 m_kinds r_state r_seen r_seenOut) (fun u_5 : (Nat → Int32) × (Nat → Int32) => lt (lX11_round_42 w m_kinds m_print m_low m_high m_lot r_market r_of 62 1 (-1000000) r_state r_brings u_5.1 u_5.2) (fun u_26 : Int32 × Int32 × (Nat → Int32) × (Nat → Int32) × (Nat → Int32) × (Nat → Int32) => lt (sX11_comeBack u_26.2.2.1 u_4) (fun u_27 : (Nat → Int32) => (u_26.2.1, 0, u_27, u_4, u_26.2.2.2.1, u_26.2.2.2.2.1, u_26.2.2.2.2.2))))))))
set_option maxHeartbeats 4000000 in
set_option maxRecDepth 100000 in
theorem mtX11_round (l : Launch) (D : va_G) (cI cB cK cS : ClassId) (Y : Nat → Nat) (R : va_W) (m_thrown : Int32) (m_status : Int32) (m_isThere : Int32) (m_kinds : Int32) (m_newKinds : Int32) (m_print : Int32) (m_low : Int32) (m_high : Int32) (m_lot : Int32) (m_taped : Int32) (m_latest : Int32) (m_length : Int32) (m_cursor : Int32) (m_token : Int32) (m_from : Int32) (m_till : Int32) (m_fault : Int32) (m_faultAt : Int32) (m_traced : Int32) (r_lane : Nat → Int32) (r_many : Nat → Int32) (r_item : Nat → Int32) (r_market : Nat → Int32) (r_of : Nat → Int32) (r_newMarket : Nat → Int32) (r_newStart : Nat → Int32) (r_newOf : Nat → Int32) (r_newCoin : Nat → Int32) (r_state : Nat → Int32) (r_kept : Nat → Int32) (r_tape : Nat → Int32) (r_brings : Nat → Int32) (r_seen : Nat → Int32) (r_seenOut : Nat → Int32) (r_trace : Nat → Int32) (w : Int32) (hkd : m_kinds.toInt ≤ 5) (hth : ¬ m_isThere = 0 → ¬ r_market 1 = 0) : MX l yX11_round wsX11_round (rmX 7) D (tyX cI cB cK cS) pF0 (mdW Y cI m_thrown m_status m_isThere m_kinds m_newKinds m_print m_low m_high m_lot m_taped m_latest m_length m_cursor m_token m_from m_till m_fault m_faultAt m_traced r_lane r_many r_item r_market r_of r_newMarket r_newStart r_newOf r_newCoin r_state r_kept r_tape r_brings r_seen r_seenOut r_trace ++ R) [.ref (Y 0), .int w] (sX11_round w m_isThere m_kinds m_print m_low m_high m_lot r_market r_of r_state r_kept r_brings r_seen r_seenOut) (fun u => some (.int u.1)) (fun u => mdW Y cI u.2.1 m_status m_isThere m_kinds m_newKinds m_print m_low m_high m_lot m_taped m_latest m_length m_cursor m_token m_from m_till m_fault m_faultAt m_traced r_lane r_many r_item r_market r_of r_newMarket r_newStart r_newOf r_newCoin u.2.2.1 u.2.2.2.1 r_tape u.2.2.2.2.1 u.2.2.2.2.2.1 u.2.2.2.2.2.2 r_trace ++ R) := by
  refine mx_intro (cc := cX11_round) (maxL := 5) (ret := (some .int)) (by decide) rfl (Nat.le_of_ble_eq_true rfl) ?_
  intro p e s m below meth c A ls H locs Qm hQm hx hb hr hml hts hown hlocks hA hS hP hK hD hF hl
  have hown : s.vm.findClass RX11 = some m.cls := hown
  have hl : lv_has ls 5 [(0, .ref (Y 0)), (1, .int w)] := hl
  have k58 := hts (.fieldLink RX11 58 "PigRoundsModel" "thrown" "I") (by decide +kernel)
  have k176 := hts (.fieldLink RX11 176 "PigRoundsModel" "isThere" "Z") (by decide +kernel)
  have k94 := hts (.constant RX11 94 (-1000000)) (by decide +kernel)
  have k49 := hts (.fieldLink RX11 49 "PigRoundsModel" "seen" "[I") (by decide +kernel)
  have k52 := hts (.fieldLink RX11 52 "PigRoundsModel" "seenOut" "[I") (by decide +kernel)
  have k231 := hts (.constant RX11 231 (-1000002)) (by decide +kernel)
  have k78 := hts (.constant RX11 78 (-1000001)) (by decide +kernel)
  have iX11 : ∀ w ∈ u_ws RX11 TX11 35, w ∈ wsX11_round := by decide +kernel
  refine lv_aload_n hx hb dX11_round_0 rfl (lv_at hl 0 rfl) ?_
  refine lv_iconst (v := 0) hx hb dX11_round_1 (by decide) ?_
  refine va_put (D := D) (ci := 9) (v := .int 0) (ty := .int) (C := RX11) (T := TX11) (N := 35) hx hb hts iX11 tyX11 tyX11_ok nmX11 hown hK hP hD hS 0 rfl rfl 0 (by decide) k58 (fun _ h9 => h9) rfl (by decide +kernel) rfl rfl (Nat.le_of_ble_eq_true rfl) dX11_round_2 (fun H locs hP hD hS => ?_)
  have hP : va_P D vwCl (mdW Y cI 0 m_status m_isThere m_kinds m_newKinds m_print m_low m_high m_lot m_taped m_latest m_length m_cursor m_token m_from m_till m_fault m_faultAt m_traced r_lane r_many r_item r_market r_of r_newMarket r_newStart r_newOf r_newCoin r_state r_kept r_tape r_brings r_seen r_seenOut r_trace ++ R) H := hP
  have hD : va_D A (mdW Y cI 0 m_status m_isThere m_kinds m_newKinds m_print m_low m_high m_lot m_taped m_latest m_length m_cursor m_token m_from m_till m_fault m_faultAt m_traced r_lane r_many r_item r_market r_of r_newMarket r_newStart r_newOf r_newCoin r_state r_kept r_tape r_brings r_seen r_seenOut r_trace ++ R) := hD
  refine lv_iload_n hx hb dX11_round_5 rfl (lv_at hl 1 rfl) ?_
  refine lv_i2l (v := w.toInt64) hx hb dX11_round_6 rfl ?_
  refine lv_lconst (v := 0) hx hb dX11_round_7 (by decide) ?_
  refine lv_lconst (v := 1) hx hb dX11_round_8 (by decide) ?_
  refine mx_callS (As := [.long w.toInt64, .long 0, .long 1]) (rest := []) ⟨hx, hb, hml, hown, hts⟩ (mtX11_in l D cI cB cK cS (mdW Y cI 0 m_status m_isThere m_kinds m_newKinds m_print m_low m_high m_lot m_taped m_latest m_length m_cursor m_token m_from m_till m_fault m_faultAt m_traced r_lane r_many r_item r_market r_of r_newMarket r_newStart r_newOf r_newCoin r_state r_kept r_tape r_brings r_seen r_seenOut r_trace ++ R) w.toInt64 0 1) (va_cwS 3 hts gX11_round_X11_in rfl rfl rfl (by decide +kernel) ⟨Nat.le_of_ble_eq_true rfl, Nat.le_of_ble_eq_true rfl⟩) pF0_ok trivial hK hP hD hS hA rfl hl.1 rfl (Nat.le_of_ble_eq_true rfl) dX11_round_9 ⟨Nat.le_refl _, Nat.le_refl _⟩ (fun u_1 H locs eu_1 hP hD hS => ?_)
  refine W.eq (g2 := F0 m 12 ls [.int u_1]) rfl ?_
  have hP : va_P D vwCl (mdW Y cI 0 m_status m_isThere m_kinds m_newKinds m_print m_low m_high m_lot m_taped m_latest m_length m_cursor m_token m_from m_till m_fault m_faultAt m_traced r_lane r_many r_item r_market r_of r_newMarket r_newStart r_newOf r_newCoin r_state r_kept r_tape r_brings r_seen r_seenOut r_trace ++ R) H := hP
  have hD : va_D A (mdW Y cI 0 m_status m_isThere m_kinds m_newKinds m_print m_low m_high m_lot m_taped m_latest m_length m_cursor m_token m_from m_till m_fault m_faultAt m_traced r_lane r_many r_item r_market r_of r_newMarket r_newStart r_newOf r_newCoin r_state r_kept r_tape r_brings r_seen r_seenOut r_trace ++ R) := hD
  refine lv_if_ne (tgt := 18) hx hb dX11_round_12 (by decide) (fun c_2 => ?_) (fun c_2 => ?_)
  · have d_2 := i_eqn rfl (show (0 : Int32).toInt = 0 from by decide) c_2
    have dt_2 := sX11_in_t ((Int32.toInt_toInt64 _).trans rfl) (show (0 : Int64).toInt = 0 from by decide) (show (1 : Int64).toInt = 1 from by decide) eu_1 c_2
    refine lv_aload_n hx hb dX11_round_18 rfl (lv_at hl 0 rfl) ?_
    refine va_get (D := D) (ci := 9) (v := .int m_isThere) (C := RX11) (T := TX11) (N := 35) hx hb hts iX11 hown hK hP 0 rfl rfl 5 (by decide) k176 (fun _ h9 => h9) rfl dX11_round_19 ?_
    refine lv_if_ne (tgt := 28) hx hb dX11_round_22 (by decide) (fun c_3 => ?_) (fun c_3 => ?_)
    · have d_3 := i_eqn rfl (show (0 : Int32).toInt = 0 from by decide) c_3
      refine lv_aload_n hx hb dX11_round_28 rfl (lv_at hl 0 rfl) ?_
      refine mx_callV (As := []) (rest := []) ⟨hx, hb, hml, hown, hts⟩ (mtX11_keep l D cI cB cK cS Y R 0 m_status m_isThere m_kinds m_newKinds m_print m_low m_high m_lot m_taped m_latest m_length m_cursor m_token m_from m_till m_fault m_faultAt m_traced r_lane r_many r_item r_market r_of r_newMarket r_newStart r_newOf r_newCoin r_state r_kept r_tape r_brings r_seen r_seenOut r_trace) (cwV 0 hts gX11_round_X11_keep rfl rfl rfl (by decide +kernel) ⟨Nat.le_of_ble_eq_true rfl, Nat.le_of_ble_eq_true rfl⟩) pF0_ok trivial hK hP hD hS hA 0 rfl rfl rfl rfl hl.1 rfl (Nat.le_of_ble_eq_true rfl) dX11_round_29 ⟨Nat.le_refl _, Nat.le_refl _⟩ (fun u_4 H locs eu_4 hP hD hS => ?_)
      refine W.eq (g2 := F0 m 32 ls []) rfl ?_
      have hP : va_P D vwCl (mdW Y cI 0 m_status m_isThere m_kinds m_newKinds m_print m_low m_high m_lot m_taped m_latest m_length m_cursor m_token m_from m_till m_fault m_faultAt m_traced r_lane r_many r_item r_market r_of r_newMarket r_newStart r_newOf r_newCoin r_state u_4 r_tape r_brings r_seen r_seenOut r_trace ++ R) H := hP
      have hD : va_D A (mdW Y cI 0 m_status m_isThere m_kinds m_newKinds m_print m_low m_high m_lot m_taped m_latest m_length m_cursor m_token m_from m_till m_fault m_faultAt m_traced r_lane r_many r_item r_market r_of r_newMarket r_newStart r_newOf r_newCoin r_state u_4 r_tape r_brings r_seen r_seenOut r_trace ++ R) := hD
      refine lv_aload_n hx hb dX11_round_32 rfl (lv_at hl 0 rfl) ?_
      refine lv_iconst (v := 0) hx hb dX11_round_33 (by decide) ?_
      refine mx_callV (As := [.int 0]) (rest := []) ⟨hx, hb, hml, hown, hts⟩ (mtX11_see l D cI cB cK cS Y R 0 m_status m_isThere m_kinds m_newKinds m_print m_low m_high m_lot m_taped m_latest m_length m_cursor m_token m_from m_till m_fault m_faultAt m_traced r_lane r_many r_item r_market r_of r_newMarket r_newStart r_newOf r_newCoin r_state u_4 r_tape r_brings r_seen r_seenOut r_trace 0 (by omega) (by decide) (by decide)) (cwV 1 hts gX11_round_X11_see rfl rfl rfl (by decide +kernel) ⟨Nat.le_of_ble_eq_true rfl, Nat.le_of_ble_eq_true rfl⟩) pF0_ok trivial hK hP hD hS hA 0 rfl rfl rfl rfl hl.1 rfl (Nat.le_of_ble_eq_true rfl) dX11_round_34 ⟨Nat.le_refl _, Nat.le_refl _⟩ (fun u_5 H locs eu_5 hP hD hS => ?_)
      refine W.eq (g2 := F0 m 37 ls []) rfl ?_
      have hP : va_P D vwCl (mdW Y cI 0 m_status m_isThere m_kinds m_newKinds m_print m_low m_high m_lot m_taped m_latest m_length m_cursor m_token m_from m_till m_fault m_faultAt m_traced r_lane r_many r_item r_market r_of r_newMarket r_newStart r_newOf r_newCoin r_state u_4 r_tape r_brings u_5.1 u_5.2 r_trace ++ R) H := hP
      have hD : va_D A (mdW Y cI 0 m_status m_isThere m_kinds m_newKinds m_print m_low m_high m_lot m_taped m_latest m_length m_cursor m_token m_from m_till m_fault m_faultAt m_traced r_lane r_many r_item r_market r_of r_newMarket r_newStart r_newOf r_newCoin r_state u_4 r_tape r_brings u_5.1 u_5.2 r_trace ++ R) := hD
      refine lv_ldc (v := (-1000000)) hx hb hown k94 dX11_round_37 ?_
      refine lv_istore_n (lv' := [(2, .int (-1000000)), (0, .ref (Y 0)), (1, .int w)]) hx hb dX11_round_39 rfl hl (by decide) rfl (fun ls hl => ?_)
      refine lv_iconst (v := 1) hx hb dX11_round_40 (by decide) ?_
      refine lv_istore_n (lv' := [(3, .int 1), (2, .int (-1000000)), (0, .ref (Y 0)), (1, .int w)]) hx hb dX11_round_41 rfl hl (by decide) rfl (fun ls hl => ?_)
      have L_42 : ∀ (n : Nat) (x3_42 : Int32) (x2_42 : Int32) (r_state_42 : Nat → Int32) (r_brings_42 : Nat → Int32) (r_seen_42 : Nat → Int32) (r_seenOut_42 : Nat → Int32) (H : Heap) (locs : List Loc) (ls : Array Slot), 0 ≤ x3_42.toInt → x3_42.toInt ≤ 61 → (61 : Int) < x3_42.toInt + ((n : Nat) : Int) → va_P D vwCl (mdW Y cI 0 m_status m_isThere m_kinds m_newKinds m_print m_low m_high m_lot m_taped m_latest m_length m_cursor m_token m_from m_till m_fault m_faultAt m_traced r_lane r_many r_item r_market r_of r_newMarket r_newStart r_newOf r_newCoin r_state_42 u_4 r_tape r_brings_42 r_seen_42 r_seenOut_42 r_trace ++ R) H → va_D A (mdW Y cI 0 m_status m_isThere m_kinds m_newKinds m_print m_low m_high m_lot m_taped m_latest m_length m_cursor m_token m_from m_till m_fault m_faultAt m_traced r_lane r_many r_item r_market r_of r_newMarket r_newStart r_newOf r_newCoin r_state_42 u_4 r_tape r_brings_42 r_seen_42 r_seenOut_42 r_trace ++ R) → va_S A s.heap H locs → lv_has ls 5 [(3, .int x3_42), (2, .int x2_42), (0, .ref (Y 0)), (1, .int w)] → (∀ (u : Int32 × Int32 × (Nat → Int32) × (Nat → Int32) × (Nat → Int32) × (Nat → Int32)) (H : Heap) (locs : List Loc) (ls : Array Slot), u = lX11_round_42 w m_kinds m_print m_low m_high m_lot r_market r_of n x3_42 x2_42 r_state_42 r_brings_42 r_seen_42 r_seenOut_42 → va_P D vwCl (mdW Y cI 0 m_status m_isThere m_kinds m_newKinds m_print m_low m_high m_lot m_taped m_latest m_length m_cursor m_token m_from m_till m_fault m_faultAt m_traced r_lane r_many r_item r_market r_of r_newMarket r_newStart r_newOf r_newCoin u.2.2.1 u_4 r_tape u.2.2.2.1 u.2.2.2.2.1 u.2.2.2.2.2 r_trace ++ R) H → va_D A (mdW Y cI 0 m_status m_isThere m_kinds m_newKinds m_print m_low m_high m_lot m_taped m_latest m_length m_cursor m_token m_from m_till m_fault m_faultAt m_traced r_lane r_many r_item r_market r_of r_newMarket r_newStart r_newOf r_newCoin u.2.2.1 u_4 r_tape u.2.2.2.1 u.2.2.2.2.1 u.2.2.2.2.2 r_trace ++ R) → va_S A s.heap H locs → lv_has ls 5 [(2, .int u.2.1), (0, .ref (Y 0))] → W p l e (rmX 7) s m ([.ref (Y 0), .int w] : List Value).toArray below meth c H locs 0 0 Qm (F0 m 149 ls [])) → W p l e (rmX 7) s m ([.ref (Y 0), .int w] : List Value).toArray below meth c H locs 0 0 Qm (F0 m 42 ls []) := by
        intro n
        induction n with
        | zero =>
          intro x3_42 x2_42 r_state_42 r_brings_42 r_seen_42 r_seenOut_42 H locs ls iv_42_0 iv_42_1 iv_42_2 hP hD hS hl kont_42
          exfalso; omega
        | succ n ih_42 =>
          intro x3_42 x2_42 r_state_42 r_brings_42 r_seen_42 r_seenOut_42 H locs ls iv_42_0 iv_42_1 iv_42_2 hP hD hS hl kont_42
          refine lv_iload_n hx hb dX11_round_42 rfl (lv_at hl 0 rfl) ?_
          refine lv_bipush (v := 61) hx hb dX11_round_43 (by decide) ?_
          refine lv_icmp_ge (tgt := 149) hx hb dX11_round_45 (by decide) (fun c_6 => ?_) (fun c_6 => ?_)
          · have d_6 := i_le (show (61 : Int32).toInt = 61 from by decide) rfl c_6
            exact kont_42 (x3_42, x2_42, r_state_42, r_brings_42, r_seen_42, r_seenOut_42) H locs ls (show lX11_round_42 w m_kinds m_print m_low m_high m_lot r_market r_of (n + 1) x3_42 x2_42 r_state_42 r_brings_42 r_seen_42 r_seenOut_42 = (x3_42, x2_42, r_state_42, r_brings_42, r_seen_42, r_seenOut_42) from ((if_pos c_6).trans rfl)).symm  hP hD hS (lv_sub hl [1, 2] rfl)
          · have d_6 := i_len (show (61 : Int32).toInt = 61 from by decide) rfl c_6
            refine lv_iload_n hx hb dX11_round_48 rfl (lv_at hl 1 rfl) ?_
            refine lv_ldc (v := (-1000000)) hx hb hown k94 dX11_round_49 ?_
            refine lv_icmp_ne (tgt := 149) hx hb dX11_round_51 (by decide) (fun c_7 => ?_) (fun c_7 => ?_)
            · have d_7 := i_eqn rfl (show ((-1000000) : Int32).toInt = (-1000000) from by decide) c_7
              exact kont_42 (x3_42, x2_42, r_state_42, r_brings_42, r_seen_42, r_seenOut_42) H locs ls (show lX11_round_42 w m_kinds m_print m_low m_high m_lot r_market r_of (n + 1) x3_42 x2_42 r_state_42 r_brings_42 r_seen_42 r_seenOut_42 = (x3_42, x2_42, r_state_42, r_brings_42, r_seen_42, r_seenOut_42) from ((if_neg c_6).trans ((if_neg c_7).trans rfl))).symm  hP hD hS (lv_sub hl [1, 2] rfl)
            · have d_7 := i_eq rfl (show ((-1000000) : Int32).toInt = (-1000000) from by decide) c_7
              refine lv_aload_n hx hb dX11_round_54 rfl (lv_at hl 2 rfl) ?_
              refine mx_callV (As := []) (rest := []) ⟨hx, hb, hml, hown, hts⟩ (mtX11_year l D cI cB cK cS Y R 0 m_status m_isThere m_kinds m_newKinds m_print m_low m_high m_lot m_taped m_latest m_length m_cursor m_token m_from m_till m_fault m_faultAt m_traced r_lane r_many r_item r_market r_of r_newMarket r_newStart r_newOf r_newCoin r_state_42 u_4 r_tape r_brings_42 r_seen_42 r_seenOut_42 r_trace (by omega) (hth (by assumption))) (cwV 0 hts gX11_round_X11_year rfl rfl rfl (by decide +kernel) ⟨Nat.le_of_ble_eq_true rfl, Nat.le_of_ble_eq_true rfl⟩) pF0_ok trivial hK hP hD hS hA 0 rfl rfl rfl rfl hl.1 rfl (Nat.le_of_ble_eq_true rfl) dX11_round_55 ⟨Nat.le_refl _, Nat.le_refl _⟩ (fun u_8 H locs eu_8 hP hD hS => ?_)
              refine W.eq (g2 := F0 m 58 ls []) rfl ?_
              have hP : va_P D vwCl (mdW Y cI 0 m_status m_isThere m_kinds m_newKinds m_print m_low m_high m_lot m_taped m_latest m_length m_cursor m_token m_from m_till m_fault m_faultAt m_traced r_lane r_many r_item r_market r_of r_newMarket r_newStart r_newOf r_newCoin u_8.1 u_4 r_tape u_8.2 r_seen_42 r_seenOut_42 r_trace ++ R) H := hP
              have hD : va_D A (mdW Y cI 0 m_status m_isThere m_kinds m_newKinds m_print m_low m_high m_lot m_taped m_latest m_length m_cursor m_token m_from m_till m_fault m_faultAt m_traced r_lane r_many r_item r_market r_of r_newMarket r_newStart r_newOf r_newCoin u_8.1 u_4 r_tape u_8.2 r_seen_42 r_seenOut_42 r_trace ++ R) := hD
              refine lv_aload_n hx hb dX11_round_58 rfl (lv_at hl 2 rfl) ?_
              refine lv_iload_n hx hb dX11_round_59 rfl (lv_at hl 0 rfl) ?_
              refine mx_callV (As := [.int x3_42]) (rest := []) ⟨hx, hb, hml, hown, hts⟩ (mtX11_see l D cI cB cK cS Y R 0 m_status m_isThere m_kinds m_newKinds m_print m_low m_high m_lot m_taped m_latest m_length m_cursor m_token m_from m_till m_fault m_faultAt m_traced r_lane r_many r_item r_market r_of r_newMarket r_newStart r_newOf r_newCoin u_8.1 u_4 r_tape u_8.2 r_seen_42 r_seenOut_42 r_trace x3_42 (by omega) (by omega) (by omega)) (cwV 1 hts gX11_round_X11_see rfl rfl rfl (by decide +kernel) ⟨Nat.le_of_ble_eq_true rfl, Nat.le_of_ble_eq_true rfl⟩) pF0_ok trivial hK hP hD hS hA 0 rfl rfl rfl rfl hl.1 rfl (Nat.le_of_ble_eq_true rfl) dX11_round_60 ⟨Nat.le_refl _, Nat.le_refl _⟩ (fun u_9 H locs eu_9 hP hD hS => ?_)
              refine W.eq (g2 := F0 m 63 ls []) rfl ?_
              have hP : va_P D vwCl (mdW Y cI 0 m_status m_isThere m_kinds m_newKinds m_print m_low m_high m_lot m_taped m_latest m_length m_cursor m_token m_from m_till m_fault m_faultAt m_traced r_lane r_many r_item r_market r_of r_newMarket r_newStart r_newOf r_newCoin u_8.1 u_4 r_tape u_8.2 u_9.1 u_9.2 r_trace ++ R) H := hP
              have hD : va_D A (mdW Y cI 0 m_status m_isThere m_kinds m_newKinds m_print m_low m_high m_lot m_taped m_latest m_length m_cursor m_token m_from m_till m_fault m_faultAt m_traced r_lane r_many r_item r_market r_of r_newMarket r_newStart r_newOf r_newCoin u_8.1 u_4 r_tape u_8.2 u_9.1 u_9.2 r_trace ++ R) := hD
              refine lv_iconst (v := 1) hx hb dX11_round_63 (by decide) ?_
              refine lv_istore (lv' := [(4, .int 1), (3, .int x3_42), (2, .int x2_42), (0, .ref (Y 0)), (1, .int w)]) hx hb dX11_round_64 hl (by decide) rfl (fun ls hl => ?_)
              have L_66 : ∀ (n : Nat) (x4_66 : Int32) (x2_66 : Int32) (H : Heap) (locs : List Loc) (ls : Array Slot), 0 ≤ x4_66.toInt → x4_66.toInt ≤ 31 → (31 : Int) < x4_66.toInt + ((n : Nat) : Int) → va_P D vwCl (mdW Y cI 0 m_status m_isThere m_kinds m_newKinds m_print m_low m_high m_lot m_taped m_latest m_length m_cursor m_token m_from m_till m_fault m_faultAt m_traced r_lane r_many r_item r_market r_of r_newMarket r_newStart r_newOf r_newCoin u_8.1 u_4 r_tape u_8.2 u_9.1 u_9.2 r_trace ++ R) H → va_D A (mdW Y cI 0 m_status m_isThere m_kinds m_newKinds m_print m_low m_high m_lot m_taped m_latest m_length m_cursor m_token m_from m_till m_fault m_faultAt m_traced r_lane r_many r_item r_market r_of r_newMarket r_newStart r_newOf r_newCoin u_8.1 u_4 r_tape u_8.2 u_9.1 u_9.2 r_trace ++ R) → va_S A s.heap H locs → lv_has ls 5 [(4, .int x4_66), (3, .int x3_42), (2, .int x2_66), (0, .ref (Y 0)), (1, .int w)] → (∀ (u : Int32 × Int32) (H : Heap) (locs : List Loc) (ls : Array Slot), u = lX11_round_66 w x3_42 u_9 n x4_66 x2_66 → va_P D vwCl (mdW Y cI 0 m_status m_isThere m_kinds m_newKinds m_print m_low m_high m_lot m_taped m_latest m_length m_cursor m_token m_from m_till m_fault m_faultAt m_traced r_lane r_many r_item r_market r_of r_newMarket r_newStart r_newOf r_newCoin u_8.1 u_4 r_tape u_8.2 u_9.1 u_9.2 r_trace ++ R) H → va_D A (mdW Y cI 0 m_status m_isThere m_kinds m_newKinds m_print m_low m_high m_lot m_taped m_latest m_length m_cursor m_token m_from m_till m_fault m_faultAt m_traced r_lane r_many r_item r_market r_of r_newMarket r_newStart r_newOf r_newCoin u_8.1 u_4 r_tape u_8.2 u_9.1 u_9.2 r_trace ++ R) → va_S A s.heap H locs → lv_has ls 5 [(3, .int x3_42), (2, .int u.2), (0, .ref (Y 0)), (1, .int w)] → W p l e (rmX 7) s m ([.ref (Y 0), .int w] : List Value).toArray below meth c H locs 0 0 Qm (F0 m 143 ls [])) → W p l e (rmX 7) s m ([.ref (Y 0), .int w] : List Value).toArray below meth c H locs 0 0 Qm (F0 m 66 ls []) := by
                intro n
                induction n with
                | zero =>
                  intro x4_66 x2_66 H locs ls iv_66_0 iv_66_1 iv_66_2 hP hD hS hl kont_66
                  exfalso; omega
                | succ n ih_66 =>
                  intro x4_66 x2_66 H locs ls iv_66_0 iv_66_1 iv_66_2 hP hD hS hl kont_66
                  refine lv_iload hx hb dX11_round_66 (lv_at hl 0 rfl) ?_
                  refine lv_bipush (v := 31) hx hb dX11_round_68 (by decide) ?_
                  refine lv_icmp_ge (tgt := 143) hx hb dX11_round_70 (by decide) (fun c_10 => ?_) (fun c_10 => ?_)
                  · have d_10 := i_le (show (31 : Int32).toInt = 31 from by decide) rfl c_10
                    exact kont_66 (x4_66, x2_66) H locs ls (show lX11_round_66 w x3_42 u_9 (n + 1) x4_66 x2_66 = (x4_66, x2_66) from ((if_pos c_10).trans rfl)).symm  hP hD hS (lv_sub hl [1, 2, 3, 4] rfl)
                  · have d_10 := i_len (show (31 : Int32).toInt = 31 from by decide) rfl c_10
                    refine lv_iload hx hb dX11_round_73 (lv_at hl 0 rfl) ?_
                    refine lv_iload_n hx hb dX11_round_75 rfl (lv_at hl 1 rfl) ?_
                    refine lv_icmp_gt (tgt := 143) hx hb dX11_round_76 (by decide) (fun c_11 => ?_) (fun c_11 => ?_)
                    · have d_11 := i_lt rfl rfl c_11
                      exact kont_66 (x4_66, x2_66) H locs ls (show lX11_round_66 w x3_42 u_9 (n + 1) x4_66 x2_66 = (x4_66, x2_66) from ((if_neg c_10).trans ((if_pos c_11).trans rfl))).symm  hP hD hS (lv_sub hl [1, 2, 3, 4] rfl)
                    · have d_11 := i_ltn rfl rfl c_11
                      refine lv_iload_n hx hb dX11_round_79 rfl (lv_at hl 2 rfl) ?_
                      refine lv_ldc (v := (-1000000)) hx hb hown k94 dX11_round_80 ?_
                      refine lv_icmp_ne (tgt := 143) hx hb dX11_round_82 (by decide) (fun c_12 => ?_) (fun c_12 => ?_)
                      · have d_12 := i_eqn rfl (show ((-1000000) : Int32).toInt = (-1000000) from by decide) c_12
                        exact kont_66 (x4_66, x2_66) H locs ls (show lX11_round_66 w x3_42 u_9 (n + 1) x4_66 x2_66 = (x4_66, x2_66) from ((if_neg c_10).trans ((if_neg c_11).trans ((if_neg c_12).trans rfl)))).symm  hP hD hS (lv_sub hl [1, 2, 3, 4] rfl)
                      · have d_12 := i_eq rfl (show ((-1000000) : Int32).toInt = (-1000000) from by decide) c_12
                        refine lv_aload_n hx hb dX11_round_85 rfl (lv_at hl 3 rfl) ?_
                        refine va_get (D := D) (ci := 9) (v := .ref (Y 31)) (C := RX11) (T := TX11) (N := 35) hx hb hts iX11 hown hK hP 0 rfl rfl 31 (by decide) k49 (fun _ h9 => h9) rfl dX11_round_86 ?_
                        refine lv_iload_n hx hb dX11_round_89 rfl (lv_at hl 1 rfl) ?_
                        have q_13 : vp_in x3_42 61 := vp_in_iff.mpr ⟨by omega, by omega⟩
                        refine va_iald hx hb hK hP 14 0 rfl rfl q_13 dX11_round_90 ?_
                        refine lv_aload_n hx hb dX11_round_91 rfl (lv_at hl 3 rfl) ?_
                        refine va_get (D := D) (ci := 9) (v := .ref (Y 31)) (C := RX11) (T := TX11) (N := 35) hx hb hts iX11 hown hK hP 0 rfl rfl 31 (by decide) k49 (fun _ h9 => h9) rfl dX11_round_92 ?_
                        refine lv_iload_n hx hb dX11_round_95 rfl (lv_at hl 1 rfl) ?_
                        refine lv_iload hx hb dX11_round_96 (lv_at hl 0 rfl) ?_
                        refine lv_isub hx hb dX11_round_98 ?_
                        have q_14 : vp_in (x3_42 - x4_66) 61 := vp_in_iff.mpr (by rw [show (x3_42 - x4_66).toInt = (x3_42.toInt - x4_66.toInt) from (i_subv rfl rfl (by omega) (by omega))]; constructor <;> omega)
                        refine va_iald hx hb hK hP 14 0 rfl rfl q_14 dX11_round_99 ?_
                        have J_17 : ∀ (y_17 : Int32) (H : Heap) (locs : List Loc) (ls : Array Slot), y_17 = (if (u_9.1 x3_42.toNatClampNeg) = (u_9.1 (x3_42 - x4_66).toNatClampNeg) then (if (u_9.2 x3_42.toNatClampNeg) = (u_9.2 (x3_42 - x4_66).toNatClampNeg) then (if w = 0 then (x4_66) else (x3_42)) else ((-1000000))) else ((-1000000))) → va_P D vwCl (mdW Y cI 0 m_status m_isThere m_kinds m_newKinds m_print m_low m_high m_lot m_taped m_latest m_length m_cursor m_token m_from m_till m_fault m_faultAt m_traced r_lane r_many r_item r_market r_of r_newMarket r_newStart r_newOf r_newCoin u_8.1 u_4 r_tape u_8.2 u_9.1 u_9.2 r_trace ++ R) H → va_D A (mdW Y cI 0 m_status m_isThere m_kinds m_newKinds m_print m_low m_high m_lot m_taped m_latest m_length m_cursor m_token m_from m_till m_fault m_faultAt m_traced r_lane r_many r_item r_market r_of r_newMarket r_newStart r_newOf r_newCoin u_8.1 u_4 r_tape u_8.2 u_9.1 u_9.2 r_trace ++ R) → va_S A s.heap H locs → lv_has ls 5 [(4, .int x4_66), (3, .int x3_42), (0, .ref (Y 0)), (1, .int w)] → W p l e (rmX 7) s m ([.ref (Y 0), .int w] : List Value).toArray below meth c H locs 0 0 Qm (F0 m 136 ls [.int y_17]) := by
                          intro y_17 H locs ls ey_17 hP hD hS hl
                          refine lv_istore_n (lv' := [(2, .int y_17), (4, .int x4_66), (3, .int x3_42), (0, .ref (Y 0)), (1, .int w)]) hx hb dX11_round_136 rfl hl (by decide) rfl (fun ls hl => ?_)
                          obtain ⟨x_23, ex_23⟩ : ∃ z : Int32, z = x4_66 + 1 := ⟨_, rfl⟩
                          refine lv_iinc (v := x_23) (lv' := [(4, .int x_23), (2, .int y_17), (3, .int x3_42), (0, .ref (Y 0)), (1, .int w)]) hx hb dX11_round_137 hl (k := 1) rfl (by rw [ex_23]; rfl) (by decide) rfl (fun ls hl => ?_)
                          refine lv_goto (tgt := 66) hx hb dX11_round_140 (by decide) ?_
                          have tx_23 : x_23.toInt = x4_66.toInt + 1 := i_inc ex_23 (by decide) (by omega) (by omega)
                          refine ih_66 x_23 y_17 H locs ls (by omega) (by omega) (by omega) hP hD hS (lv_sub hl [0, 2, 1, 3, 4] rfl) (fun u H locs ls eu  hP hD hS hl => ?_)
                          exact kont_66 u H locs ls (eu.trans (show lX11_round_66 w x3_42 u_9 (n + 1) x4_66 x2_66 = lX11_round_66 w x3_42 u_9 n x_23 y_17 from ((if_neg c_10).trans ((if_neg c_11).trans ((if_pos c_12).trans (lt_eq ey_17 (lt_eq ex_23 rfl)))))).symm)  hP hD hS hl
                        refine lv_icmp_ne (tgt := 134) hx hb dX11_round_100 (by decide) (fun c_18 => ?_) (fun c_18 => ?_)
                        · have d_18 := i_eqn rfl rfl c_18
                          refine lv_ldc (v := (-1000000)) hx hb hown k94 dX11_round_134 ?_
                          exact J_17 (-1000000) H locs ls (Eq.symm ((if_neg c_18).trans rfl)) hP hD hS (lv_sub hl [0, 1, 3, 4] rfl)
                        · have d_18 := i_eq rfl rfl c_18
                          refine lv_aload_n hx hb dX11_round_103 rfl (lv_at hl 3 rfl) ?_
                          refine va_get (D := D) (ci := 9) (v := .ref (Y 32)) (C := RX11) (T := TX11) (N := 35) hx hb hts iX11 hown hK hP 0 rfl rfl 32 (by decide) k52 (fun _ h9 => h9) rfl dX11_round_104 ?_
                          refine lv_iload_n hx hb dX11_round_107 rfl (lv_at hl 1 rfl) ?_
                          have q_19 : vp_in x3_42 61 := vp_in_iff.mpr ⟨by omega, by omega⟩
                          refine va_iald hx hb hK hP 15 0 rfl rfl q_19 dX11_round_108 ?_
                          refine lv_aload_n hx hb dX11_round_109 rfl (lv_at hl 3 rfl) ?_
                          refine va_get (D := D) (ci := 9) (v := .ref (Y 32)) (C := RX11) (T := TX11) (N := 35) hx hb hts iX11 hown hK hP 0 rfl rfl 32 (by decide) k52 (fun _ h9 => h9) rfl dX11_round_110 ?_
                          refine lv_iload_n hx hb dX11_round_113 rfl (lv_at hl 1 rfl) ?_
                          refine lv_iload hx hb dX11_round_114 (lv_at hl 0 rfl) ?_
                          refine lv_isub hx hb dX11_round_116 ?_
                          have q_20 : vp_in (x3_42 - x4_66) 61 := vp_in_iff.mpr (by rw [show (x3_42 - x4_66).toInt = (x3_42.toInt - x4_66.toInt) from (i_subv rfl rfl (by omega) (by omega))]; constructor <;> omega)
                          refine va_iald hx hb hK hP 15 0 rfl rfl q_20 dX11_round_117 ?_
                          refine lv_icmp_ne (tgt := 134) hx hb dX11_round_118 (by decide) (fun c_21 => ?_) (fun c_21 => ?_)
                          · have d_21 := i_eqn rfl rfl c_21
                            refine lv_ldc (v := (-1000000)) hx hb hown k94 dX11_round_134 ?_
                            exact J_17 (-1000000) H locs ls (Eq.symm ((if_pos c_18).trans ((if_neg c_21).trans rfl))) hP hD hS (lv_sub hl [0, 1, 3, 4] rfl)
                          · have d_21 := i_eq rfl rfl c_21
                            refine lv_iload_n hx hb dX11_round_121 rfl (lv_at hl 4 rfl) ?_
                            refine lv_if_ne (tgt := 130) hx hb dX11_round_122 (by decide) (fun c_22 => ?_) (fun c_22 => ?_)
                            · have d_22 := i_eqn rfl (show (0 : Int32).toInt = 0 from by decide) c_22
                              refine lv_iload_n hx hb dX11_round_130 rfl (lv_at hl 1 rfl) ?_
                              refine lv_goto (tgt := 136) hx hb dX11_round_131 (by decide) ?_
                              exact J_17 x3_42 H locs ls (Eq.symm ((if_pos c_18).trans ((if_pos c_21).trans ((if_neg c_22).trans rfl)))) hP hD hS (lv_sub hl [0, 1, 3, 4] rfl)
                            · have d_22 := i_eq rfl (show (0 : Int32).toInt = 0 from by decide) c_22
                              refine lv_iload hx hb dX11_round_125 (lv_at hl 0 rfl) ?_
                              refine lv_goto (tgt := 136) hx hb dX11_round_127 (by decide) ?_
                              exact J_17 x4_66 H locs ls (Eq.symm ((if_pos c_18).trans ((if_pos c_21).trans ((if_pos c_22).trans rfl)))) hP hD hS (lv_sub hl [0, 1, 3, 4] rfl)
              refine L_66 32 1 x2_42 H locs ls (by decide) (by decide) (by decide) hP hD hS (lv_sub hl [0, 1, 2, 3, 4] rfl) (fun u_24 H locs ls eu_24  hP hD hS hl => ?_)
              have hP : va_P D vwCl (mdW Y cI 0 m_status m_isThere m_kinds m_newKinds m_print m_low m_high m_lot m_taped m_latest m_length m_cursor m_token m_from m_till m_fault m_faultAt m_traced r_lane r_many r_item r_market r_of r_newMarket r_newStart r_newOf r_newCoin u_8.1 u_4 r_tape u_8.2 u_9.1 u_9.2 r_trace ++ R) H := hP
              have hD : va_D A (mdW Y cI 0 m_status m_isThere m_kinds m_newKinds m_print m_low m_high m_lot m_taped m_latest m_length m_cursor m_token m_from m_till m_fault m_faultAt m_traced r_lane r_many r_item r_market r_of r_newMarket r_newStart r_newOf r_newCoin u_8.1 u_4 r_tape u_8.2 u_9.1 u_9.2 r_trace ++ R) := hD
              obtain ⟨x_25, ex_25⟩ : ∃ z : Int32, z = x3_42 + 1 := ⟨_, rfl⟩
              refine lv_iinc (v := x_25) (lv' := [(3, .int x_25), (2, .int u_24.2), (0, .ref (Y 0)), (1, .int w)]) hx hb dX11_round_143 hl (k := 0) rfl (by rw [ex_25]; rfl) (by decide) rfl (fun ls hl => ?_)
              refine lv_goto (tgt := 42) hx hb dX11_round_146 (by decide) ?_
              have tx_25 : x_25.toInt = x3_42.toInt + 1 := i_inc ex_25 (by decide) (by omega) (by omega)
              refine ih_42 x_25 u_24.2 u_8.1 u_8.2 u_9.1 u_9.2 H locs ls (by omega) (by omega) (by omega) hP hD hS (lv_sub hl [0, 1, 2, 3] rfl) (fun u H locs ls eu  hP hD hS hl => ?_)
              exact kont_42 u H locs ls (eu.trans (show lX11_round_42 w m_kinds m_print m_low m_high m_lot r_market r_of (n + 1) x3_42 x2_42 r_state_42 r_brings_42 r_seen_42 r_seenOut_42 = lX11_round_42 w m_kinds m_print m_low m_high m_lot r_market r_of n x_25 u_24.2 u_8.1 u_8.2 u_9.1 u_9.2 from ((if_neg c_6).trans ((if_pos c_7).trans (lt_eq eu_8 (lt_eq eu_9 (lt_eq eu_24 (lt_eq ex_25 rfl))))))).symm)  hP hD hS hl
      refine L_42 62 1 (-1000000) r_state r_brings u_5.1 u_5.2 H locs ls (by decide) (by decide) (by decide) hP hD hS (lv_sub hl [0, 1, 2, 3] rfl) (fun u_26 H locs ls eu_26  hP hD hS hl => ?_)
      have hP : va_P D vwCl (mdW Y cI 0 m_status m_isThere m_kinds m_newKinds m_print m_low m_high m_lot m_taped m_latest m_length m_cursor m_token m_from m_till m_fault m_faultAt m_traced r_lane r_many r_item r_market r_of r_newMarket r_newStart r_newOf r_newCoin u_26.2.2.1 u_4 r_tape u_26.2.2.2.1 u_26.2.2.2.2.1 u_26.2.2.2.2.2 r_trace ++ R) H := hP
      have hD : va_D A (mdW Y cI 0 m_status m_isThere m_kinds m_newKinds m_print m_low m_high m_lot m_taped m_latest m_length m_cursor m_token m_from m_till m_fault m_faultAt m_traced r_lane r_many r_item r_market r_of r_newMarket r_newStart r_newOf r_newCoin u_26.2.2.1 u_4 r_tape u_26.2.2.2.1 u_26.2.2.2.2.1 u_26.2.2.2.2.2 r_trace ++ R) := hD
      refine lv_aload_n hx hb dX11_round_149 rfl (lv_at hl 1 rfl) ?_
      refine mx_callV (As := []) (rest := []) ⟨hx, hb, hml, hown, hts⟩ (mtX11_comeBack l D cI cB cK cS Y R 0 m_status m_isThere m_kinds m_newKinds m_print m_low m_high m_lot m_taped m_latest m_length m_cursor m_token m_from m_till m_fault m_faultAt m_traced r_lane r_many r_item r_market r_of r_newMarket r_newStart r_newOf r_newCoin u_26.2.2.1 u_4 r_tape u_26.2.2.2.1 u_26.2.2.2.2.1 u_26.2.2.2.2.2 r_trace) (cwV 0 hts gX11_round_X11_comeBack rfl rfl rfl (by decide +kernel) ⟨Nat.le_of_ble_eq_true rfl, Nat.le_of_ble_eq_true rfl⟩) pF0_ok trivial hK hP hD hS hA 0 rfl rfl rfl rfl hl.1 rfl (Nat.le_of_ble_eq_true rfl) dX11_round_150 ⟨Nat.le_refl _, Nat.le_refl _⟩ (fun u_27 H locs eu_27 hP hD hS => ?_)
      refine W.eq (g2 := F0 m 153 ls []) rfl ?_
      have hP : va_P D vwCl (mdW Y cI 0 m_status m_isThere m_kinds m_newKinds m_print m_low m_high m_lot m_taped m_latest m_length m_cursor m_token m_from m_till m_fault m_faultAt m_traced r_lane r_many r_item r_market r_of r_newMarket r_newStart r_newOf r_newCoin u_27 u_4 r_tape u_26.2.2.2.1 u_26.2.2.2.2.1 u_26.2.2.2.2.2 r_trace ++ R) H := hP
      have hD : va_D A (mdW Y cI 0 m_status m_isThere m_kinds m_newKinds m_print m_low m_high m_lot m_taped m_latest m_length m_cursor m_token m_from m_till m_fault m_faultAt m_traced r_lane r_many r_item r_market r_of r_newMarket r_newStart r_newOf r_newCoin u_27 u_4 r_tape u_26.2.2.2.1 u_26.2.2.2.2.1 u_26.2.2.2.2.2 r_trace ++ R) := hD
      refine lv_iload_n hx hb dX11_round_153 rfl (lv_at hl 0 rfl) ?_
      rw [hQm]
      exact mx_iret (u0 := sX11_round w m_isThere m_kinds m_print m_low m_high m_lot r_market r_of r_state r_kept r_brings r_seen r_seenOut) (rv := (fun u => some (.int u.1))) (w1 := (fun u => mdW Y cI u.2.1 m_status m_isThere m_kinds m_newKinds m_print m_low m_high m_lot m_taped m_latest m_length m_cursor m_token m_from m_till m_fault m_faultAt m_traced r_lane r_many r_item r_market r_of r_newMarket r_newStart r_newOf r_newCoin u.2.2.1 u.2.2.2.1 r_tape u.2.2.2.2.1 u.2.2.2.2.2.1 u.2.2.2.2.2.2 r_trace ++ R)) (u := (u_26.2.1, 0, u_27, u_4, u_26.2.2.2.1, u_26.2.2.2.2.1, u_26.2.2.2.2.2)) hx hb hr hlocks hK hS (lt_eq eu_1 ((if_neg c_2).trans ((if_neg c_3).trans (lt_eq eu_4 (lt_eq eu_5 (lt_eq eu_26 (lt_eq eu_27 rfl))))))) hP hD rfl dX11_round_154
    · have d_3 := i_eq rfl (show (0 : Int32).toInt = 0 from by decide) c_3
      refine lv_ldc (v := (-1000002)) hx hb hown k231 dX11_round_25 ?_
      rw [hQm]
      exact mx_iret (u0 := sX11_round w m_isThere m_kinds m_print m_low m_high m_lot r_market r_of r_state r_kept r_brings r_seen r_seenOut) (rv := (fun u => some (.int u.1))) (w1 := (fun u => mdW Y cI u.2.1 m_status m_isThere m_kinds m_newKinds m_print m_low m_high m_lot m_taped m_latest m_length m_cursor m_token m_from m_till m_fault m_faultAt m_traced r_lane r_many r_item r_market r_of r_newMarket r_newStart r_newOf r_newCoin u.2.2.1 u.2.2.2.1 r_tape u.2.2.2.2.1 u.2.2.2.2.2.1 u.2.2.2.2.2.2 r_trace ++ R)) (u := ((-1000002), 0, r_state, r_kept, r_brings, r_seen, r_seenOut)) hx hb hr hlocks hK hS (lt_eq eu_1 ((if_neg c_2).trans ((if_pos c_3).trans rfl))) hP hD rfl dX11_round_27
  · have d_2 := i_eq rfl (show (0 : Int32).toInt = 0 from by decide) c_2
    refine lv_ldc (v := (-1000001)) hx hb hown k78 dX11_round_15 ?_
    rw [hQm]
    exact mx_iret (u0 := sX11_round w m_isThere m_kinds m_print m_low m_high m_lot r_market r_of r_state r_kept r_brings r_seen r_seenOut) (rv := (fun u => some (.int u.1))) (w1 := (fun u => mdW Y cI u.2.1 m_status m_isThere m_kinds m_newKinds m_print m_low m_high m_lot m_taped m_latest m_length m_cursor m_token m_from m_till m_fault m_faultAt m_traced r_lane r_many r_item r_market r_of r_newMarket r_newStart r_newOf r_newCoin u.2.2.1 u.2.2.2.1 r_tape u.2.2.2.2.1 u.2.2.2.2.2.1 u.2.2.2.2.2.2 r_trace ++ R)) (u := ((-1000001), 0, r_state, r_kept, r_brings, r_seen, r_seenOut)) hx hb hr hlocks hK hS (lt_eq eu_1 ((if_pos c_2).trans rfl)) hP hD rfl dX11_round_17
