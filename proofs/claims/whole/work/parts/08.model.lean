theorem l_ne0 {x : Int32} (h : ¬ x = 0) : ¬ x.toInt64 = 0 := fun q => h (Int32.toInt_inj.mp (by have := congrArg Int64.toInt q; rw [Int32.toInt_toInt64] at this; exact this))
def lX11_bears_79 (nn : Int32) (m_kinds : Int32) (m_print : Int32) (m_low : Int32) (m_high : Int32) (m_lot : Int32) (r_market : Nat → Int32) (ar_11 : Nat → Int32) : Nat → Int32 → (Nat → Int32) → (Nat → Int32) → Int32 × (Nat → Int32) × (Nat → Int32)
  | 0, x6_79, r_state_79, r_brings_79 => (x6_79, r_state_79, r_brings_79)
  | n + 1, x6_79, r_state_79, r_brings_79 => if nn ≤ x6_79 then ((x6_79, r_state_79, r_brings_79)) else (lt (sX11_year m_kinds m_print m_low m_high m_lot r_market ar_11 r_state_79 r_brings_79) (fun u_13 : (Nat → Int32) × (Nat → Int32) => lt (x6_79 + 1) (fun x_14 : Int32 => lX11_bears_79 nn m_kinds m_print m_low m_high m_lot r_market ar_11 n x_14 u_13.1 u_13.2)))

def lX11_bears_49 (k : Int32) (nn : Int32) (m_kinds : Int32) (m_print : Int32) (m_low : Int32) (m_high : Int32) (m_lot : Int32) (r_market : Nat → Int32) (u_6 : (Nat → Int32)) : Nat → Int32 → Int32 → (Nat → Int32) → (Nat → Int32) → (Nat → Int32) → Int32 × Int32 × (Nat → Int32) × (Nat → Int32) × (Nat → Int32)
  | 0, x5_49, x4_49, r_of_49, r_state_49, r_brings_49 => (x5_49, x4_49, r_of_49, r_state_49, r_brings_49)
  | n + 1, x5_49, x4_49, r_of_49, r_state_49, r_brings_49 => if x5_49 = 0 then ((x5_49, x4_49, r_of_49, r_state_49, r_brings_49)) else (if 40 ≤ x4_49 then ((x5_49, x4_49, r_of_49, r_state_49, r_brings_49)) else (lt (upd r_of_49 ((6 * k) + 2).toNatClampNeg (x4_49 + 1)) (fun ar_11 : Nat → Int32 => lt (lX11_bears_79 nn m_kinds m_print m_low m_high m_lot r_market ar_11 31 0 r_state_49 r_brings_49) (fun u_15 : Int32 × (Nat → Int32) × (Nat → Int32) => lt (if ((u_15.2.1 (7 + k).toNatClampNeg) - (u_6 (7 + k).toNatClampNeg)) < ((u_15.2.1 7) - (u_6 7)) then (0) else (1)) (fun y_20 : Int32 => lt (if y_20 = 0 then (0) else (1)) (fun y_22 : Int32 => lt (x4_49 + y_22) (fun x_24 : Int32 => lt (sX11_comeBack u_15.2.1 u_6) (fun u_25 : (Nat → Int32) => lX11_bears_49 k nn m_kinds m_print m_low m_high m_lot r_market u_6 n y_20 x_24 ar_11 u_25 u_15.2.2))))))))

def sX11_bears (k : Int32) (nn : Int32) (m_kinds : Int32) (m_print : Int32) (m_low : Int32) (m_high : Int32) (m_lot : Int32) (r_market : Nat → Int32) (r_of : Nat → Int32) (r_state : Nat → Int32) (r_kept : Nat → Int32) (r_brings : Nat → Int32) : Int32 × (Int32) × (Nat → Int32) × (Nat → Int32) × (Nat → Int32) × (Nat → Int32) := lt (sX11_isKind k m_kinds) (fun u_1 : Int32 => if u_1 = 0 then (((-1000001), 0, r_of, r_state, r_kept, r_brings)) else (if k = 0 then (((-1000001), 0, r_of, r_state, r_kept, r_brings)) else (lt (sX11_in nn.toInt64 1 30) (fun u_4 : Int32 => if u_4 = 0 then (((-1000001), 0, r_of, r_state, r_kept, r_brings)) else (lt (sX11_keep r_state r_kept) (fun u_6 : (Nat → Int32) => lt (sX11_told k 2 r_of) (fun u_7 : Int32 => lt (lX11_bears_49 k nn m_kinds m_print m_low m_high m_lot r_market u_6 42 1 0 r_of r_state r_brings) (fun u_26 : Int32 × Int32 × (Nat → Int32) × (Nat → Int32) × (Nat → Int32) => lt (upd u_26.2.2.1 ((6 * k) + 2).toNatClampNeg u_7) (fun ar_28 : Nat → Int32 => (u_26.2.1, 0, ar_28, u_26.2.2.2.1, u_6, u_26.2.2.2.2))))))))))
set_option maxHeartbeats 4000000 in
set_option maxRecDepth 100000 in
theorem mtX11_bears (l : Launch) (D : va_G) (cI cB cK cS : ClassId) (Y : Nat → Nat) (R : va_W) (m_thrown : Int32) (m_status : Int32) (m_isThere : Int32) (m_kinds : Int32) (m_newKinds : Int32) (m_print : Int32) (m_low : Int32) (m_high : Int32) (m_lot : Int32) (m_taped : Int32) (m_latest : Int32) (m_length : Int32) (m_cursor : Int32) (m_token : Int32) (m_from : Int32) (m_till : Int32) (m_fault : Int32) (m_faultAt : Int32) (m_traced : Int32) (r_lane : Nat → Int32) (r_many : Nat → Int32) (r_item : Nat → Int32) (r_market : Nat → Int32) (r_of : Nat → Int32) (r_newMarket : Nat → Int32) (r_newStart : Nat → Int32) (r_newOf : Nat → Int32) (r_newCoin : Nat → Int32) (r_state : Nat → Int32) (r_kept : Nat → Int32) (r_tape : Nat → Int32) (r_brings : Nat → Int32) (r_seen : Nat → Int32) (r_seenOut : Nat → Int32) (r_trace : Nat → Int32) (k : Int32) (nn : Int32) (hkd0 : 0 ≤ m_kinds.toInt) (hkd : m_kinds.toInt ≤ 5) (hkt : 0 < m_kinds.toInt → ¬ r_market 1 = 0) : MX l yX11_bears wsX11_bears (rmX 7) D (tyX cI cB cK cS) pF0 (mdW Y cI m_thrown m_status m_isThere m_kinds m_newKinds m_print m_low m_high m_lot m_taped m_latest m_length m_cursor m_token m_from m_till m_fault m_faultAt m_traced r_lane r_many r_item r_market r_of r_newMarket r_newStart r_newOf r_newCoin r_state r_kept r_tape r_brings r_seen r_seenOut r_trace ++ R) [.ref (Y 0), .int k, .int nn] (sX11_bears k nn m_kinds m_print m_low m_high m_lot r_market r_of r_state r_kept r_brings) (fun u => some (.int u.1)) (fun u => mdW Y cI u.2.1 m_status m_isThere m_kinds m_newKinds m_print m_low m_high m_lot m_taped m_latest m_length m_cursor m_token m_from m_till m_fault m_faultAt m_traced r_lane r_many r_item r_market u.2.2.1 r_newMarket r_newStart r_newOf r_newCoin u.2.2.2.1 u.2.2.2.2.1 r_tape u.2.2.2.2.2 r_seen r_seenOut r_trace ++ R) := by
  refine mx_intro (cc := cX11_bears) (maxL := 7) (ret := (some .int)) (by decide) rfl (Nat.le_of_ble_eq_true rfl) ?_
  intro p e s m below meth c A ls H locs Qm hQm hx hb hr hml hts hown hlocks hA hS hP hK hD hF hl
  have hown : s.vm.findClass RX11 = some m.cls := hown
  have hl : lv_has ls 7 [(0, .ref (Y 0)), (1, .int k), (2, .int nn)] := hl
  have k58 := hts (.fieldLink RX11 58 "PigRoundsModel" "thrown" "I") (by decide +kernel)
  have k78 := hts (.constant RX11 78 (-1000001)) (by decide +kernel)
  have k241 := hts (.constantLong RX11 241 (30)) (by decide +kernel)
  have k22 := hts (.fieldLink RX11 22 "PigRoundsModel" "of" "[I") (by decide +kernel)
  have k37 := hts (.fieldLink RX11 37 "PigRoundsModel" "state" "[I") (by decide +kernel)
  have k40 := hts (.fieldLink RX11 40 "PigRoundsModel" "kept" "[I") (by decide +kernel)
  have iX11 : ∀ w ∈ u_ws RX11 TX11 35, w ∈ wsX11_bears := by decide +kernel
  refine lv_aload_n hx hb dX11_bears_0 rfl (lv_at hl 0 rfl) ?_
  refine lv_iconst (v := 0) hx hb dX11_bears_1 (by decide) ?_
  refine va_put (D := D) (ci := 9) (v := .int 0) (ty := .int) (C := RX11) (T := TX11) (N := 35) hx hb hts iX11 tyX11 tyX11_ok nmX11 hown hK hP hD hS 0 rfl rfl 0 (by decide) k58 (fun _ h9 => h9) rfl (by decide +kernel) rfl rfl (Nat.le_of_ble_eq_true rfl) dX11_bears_2 (fun H locs hP hD hS => ?_)
  have hP : va_P D vwCl (mdW Y cI 0 m_status m_isThere m_kinds m_newKinds m_print m_low m_high m_lot m_taped m_latest m_length m_cursor m_token m_from m_till m_fault m_faultAt m_traced r_lane r_many r_item r_market r_of r_newMarket r_newStart r_newOf r_newCoin r_state r_kept r_tape r_brings r_seen r_seenOut r_trace ++ R) H := hP
  have hD : va_D A (mdW Y cI 0 m_status m_isThere m_kinds m_newKinds m_print m_low m_high m_lot m_taped m_latest m_length m_cursor m_token m_from m_till m_fault m_faultAt m_traced r_lane r_many r_item r_market r_of r_newMarket r_newStart r_newOf r_newCoin r_state r_kept r_tape r_brings r_seen r_seenOut r_trace ++ R) := hD
  refine lv_aload_n hx hb dX11_bears_5 rfl (lv_at hl 0 rfl) ?_
  refine lv_iload_n hx hb dX11_bears_6 rfl (lv_at hl 1 rfl) ?_
  refine mx_callV (As := [.int k]) (rest := []) ⟨hx, hb, hml, hown, hts⟩ (mtX11_isKind l D cI cB cK cS Y R 0 m_status m_isThere m_kinds m_newKinds m_print m_low m_high m_lot m_taped m_latest m_length m_cursor m_token m_from m_till m_fault m_faultAt m_traced r_lane r_many r_item r_market r_of r_newMarket r_newStart r_newOf r_newCoin r_state r_kept r_tape r_brings r_seen r_seenOut r_trace k) (cwV 1 hts gX11_bears_X11_isKind rfl rfl rfl (by decide +kernel) ⟨Nat.le_of_ble_eq_true rfl, Nat.le_of_ble_eq_true rfl⟩) pF0_ok trivial hK hP hD hS hA 0 rfl rfl rfl rfl hl.1 rfl (Nat.le_of_ble_eq_true rfl) dX11_bears_7 ⟨Nat.le_refl _, Nat.le_refl _⟩ (fun u_1 H locs eu_1 hP hD hS => ?_)
  refine W.eq (g2 := F0 m 10 ls [.int u_1]) rfl ?_
  have hP : va_P D vwCl (mdW Y cI 0 m_status m_isThere m_kinds m_newKinds m_print m_low m_high m_lot m_taped m_latest m_length m_cursor m_token m_from m_till m_fault m_faultAt m_traced r_lane r_many r_item r_market r_of r_newMarket r_newStart r_newOf r_newCoin r_state r_kept r_tape r_brings r_seen r_seenOut r_trace ++ R) H := hP
  have hD : va_D A (mdW Y cI 0 m_status m_isThere m_kinds m_newKinds m_print m_low m_high m_lot m_taped m_latest m_length m_cursor m_token m_from m_till m_fault m_faultAt m_traced r_lane r_many r_item r_market r_of r_newMarket r_newStart r_newOf r_newCoin r_state r_kept r_tape r_brings r_seen r_seenOut r_trace ++ R) := hD
  refine lv_if_eq (tgt := 29) hx hb dX11_bears_10 (by decide) (fun c_2 => ?_) (fun c_2 => ?_)
  · have d_2 := i_eq rfl (show (0 : Int32).toInt = 0 from by decide) c_2
    refine lv_ldc (v := (-1000001)) hx hb hown k78 dX11_bears_29 ?_
    rw [hQm]
    exact mx_iret (u0 := sX11_bears k nn m_kinds m_print m_low m_high m_lot r_market r_of r_state r_kept r_brings) (rv := (fun u => some (.int u.1))) (w1 := (fun u => mdW Y cI u.2.1 m_status m_isThere m_kinds m_newKinds m_print m_low m_high m_lot m_taped m_latest m_length m_cursor m_token m_from m_till m_fault m_faultAt m_traced r_lane r_many r_item r_market u.2.2.1 r_newMarket r_newStart r_newOf r_newCoin u.2.2.2.1 u.2.2.2.2.1 r_tape u.2.2.2.2.2 r_seen r_seenOut r_trace ++ R)) (u := ((-1000001), 0, r_of, r_state, r_kept, r_brings)) hx hb hr hlocks hK hS (lt_eq eu_1 ((if_pos c_2).trans rfl)) hP hD rfl dX11_bears_31
  · have d_2 := i_eqn rfl (show (0 : Int32).toInt = 0 from by decide) c_2
    have dt_2 := sX11_isKind_t hkd0 eu_1 c_2
    refine lv_iload_n hx hb dX11_bears_13 rfl (lv_at hl 1 rfl) ?_
    refine lv_if_eq (tgt := 29) hx hb dX11_bears_14 (by decide) (fun c_3 => ?_) (fun c_3 => ?_)
    · have d_3 := i_eq rfl (show (0 : Int32).toInt = 0 from by decide) c_3
      refine lv_ldc (v := (-1000001)) hx hb hown k78 dX11_bears_29 ?_
      rw [hQm]
      exact mx_iret (u0 := sX11_bears k nn m_kinds m_print m_low m_high m_lot r_market r_of r_state r_kept r_brings) (rv := (fun u => some (.int u.1))) (w1 := (fun u => mdW Y cI u.2.1 m_status m_isThere m_kinds m_newKinds m_print m_low m_high m_lot m_taped m_latest m_length m_cursor m_token m_from m_till m_fault m_faultAt m_traced r_lane r_many r_item r_market u.2.2.1 r_newMarket r_newStart r_newOf r_newCoin u.2.2.2.1 u.2.2.2.2.1 r_tape u.2.2.2.2.2 r_seen r_seenOut r_trace ++ R)) (u := ((-1000001), 0, r_of, r_state, r_kept, r_brings)) hx hb hr hlocks hK hS (lt_eq eu_1 ((if_neg c_2).trans ((if_pos c_3).trans rfl))) hP hD rfl dX11_bears_31
    · have d_3 := i_eqn rfl (show (0 : Int32).toInt = 0 from by decide) c_3
      refine lv_iload_n hx hb dX11_bears_17 rfl (lv_at hl 2 rfl) ?_
      refine lv_i2l (v := nn.toInt64) hx hb dX11_bears_18 rfl ?_
      refine lv_lconst (v := 1) hx hb dX11_bears_19 (by decide) ?_
      refine lv_ldc2 (v := 30) hx hb hown k241 dX11_bears_20 ?_
      refine mx_callS (As := [.long nn.toInt64, .long 1, .long 30]) (rest := []) ⟨hx, hb, hml, hown, hts⟩ (mtX11_in l D cI cB cK cS (mdW Y cI 0 m_status m_isThere m_kinds m_newKinds m_print m_low m_high m_lot m_taped m_latest m_length m_cursor m_token m_from m_till m_fault m_faultAt m_traced r_lane r_many r_item r_market r_of r_newMarket r_newStart r_newOf r_newCoin r_state r_kept r_tape r_brings r_seen r_seenOut r_trace ++ R) nn.toInt64 1 30) (va_cwS 3 hts gX11_bears_X11_in rfl rfl rfl (by decide +kernel) ⟨Nat.le_of_ble_eq_true rfl, Nat.le_of_ble_eq_true rfl⟩) pF0_ok trivial hK hP hD hS hA rfl hl.1 rfl (Nat.le_of_ble_eq_true rfl) dX11_bears_23 ⟨Nat.le_refl _, Nat.le_refl _⟩ (fun u_4 H locs eu_4 hP hD hS => ?_)
      refine W.eq (g2 := F0 m 26 ls [.int u_4]) rfl ?_
      have hP : va_P D vwCl (mdW Y cI 0 m_status m_isThere m_kinds m_newKinds m_print m_low m_high m_lot m_taped m_latest m_length m_cursor m_token m_from m_till m_fault m_faultAt m_traced r_lane r_many r_item r_market r_of r_newMarket r_newStart r_newOf r_newCoin r_state r_kept r_tape r_brings r_seen r_seenOut r_trace ++ R) H := hP
      have hD : va_D A (mdW Y cI 0 m_status m_isThere m_kinds m_newKinds m_print m_low m_high m_lot m_taped m_latest m_length m_cursor m_token m_from m_till m_fault m_faultAt m_traced r_lane r_many r_item r_market r_of r_newMarket r_newStart r_newOf r_newCoin r_state r_kept r_tape r_brings r_seen r_seenOut r_trace ++ R) := hD
      refine lv_if_ne (tgt := 32) hx hb dX11_bears_26 (by decide) (fun c_5 => ?_) (fun c_5 => ?_)
      · have d_5 := i_eqn rfl (show (0 : Int32).toInt = 0 from by decide) c_5
        have dt_5 := sX11_in_t ((Int32.toInt_toInt64 _).trans rfl) (show (1 : Int64).toInt = 1 from by decide) (show (30 : Int64).toInt = 30 from by decide) eu_4 c_5
        refine lv_aload_n hx hb dX11_bears_32 rfl (lv_at hl 0 rfl) ?_
        refine mx_callV (As := []) (rest := []) ⟨hx, hb, hml, hown, hts⟩ (mtX11_keep l D cI cB cK cS Y R 0 m_status m_isThere m_kinds m_newKinds m_print m_low m_high m_lot m_taped m_latest m_length m_cursor m_token m_from m_till m_fault m_faultAt m_traced r_lane r_many r_item r_market r_of r_newMarket r_newStart r_newOf r_newCoin r_state r_kept r_tape r_brings r_seen r_seenOut r_trace) (cwV 0 hts gX11_bears_X11_keep rfl rfl rfl (by decide +kernel) ⟨Nat.le_of_ble_eq_true rfl, Nat.le_of_ble_eq_true rfl⟩) pF0_ok trivial hK hP hD hS hA 0 rfl rfl rfl rfl hl.1 rfl (Nat.le_of_ble_eq_true rfl) dX11_bears_33 ⟨Nat.le_refl _, Nat.le_refl _⟩ (fun u_6 H locs eu_6 hP hD hS => ?_)
        refine W.eq (g2 := F0 m 36 ls []) rfl ?_
        have hP : va_P D vwCl (mdW Y cI 0 m_status m_isThere m_kinds m_newKinds m_print m_low m_high m_lot m_taped m_latest m_length m_cursor m_token m_from m_till m_fault m_faultAt m_traced r_lane r_many r_item r_market r_of r_newMarket r_newStart r_newOf r_newCoin r_state u_6 r_tape r_brings r_seen r_seenOut r_trace ++ R) H := hP
        have hD : va_D A (mdW Y cI 0 m_status m_isThere m_kinds m_newKinds m_print m_low m_high m_lot m_taped m_latest m_length m_cursor m_token m_from m_till m_fault m_faultAt m_traced r_lane r_many r_item r_market r_of r_newMarket r_newStart r_newOf r_newCoin r_state u_6 r_tape r_brings r_seen r_seenOut r_trace ++ R) := hD
        refine lv_aload_n hx hb dX11_bears_36 rfl (lv_at hl 0 rfl) ?_
        refine lv_iload_n hx hb dX11_bears_37 rfl (lv_at hl 1 rfl) ?_
        refine lv_iconst (v := 2) hx hb dX11_bears_38 (by decide) ?_
        refine mx_callV (As := [.int k, .int 2]) (rest := []) ⟨hx, hb, hml, hown, hts⟩ (mtX11_told l D cI cB cK cS Y R 0 m_status m_isThere m_kinds m_newKinds m_print m_low m_high m_lot m_taped m_latest m_length m_cursor m_token m_from m_till m_fault m_faultAt m_traced r_lane r_many r_item r_market r_of r_newMarket r_newStart r_newOf r_newCoin r_state u_6 r_tape r_brings r_seen r_seenOut r_trace k 2 (vp_in_iff.mpr (by rw [show (6 * k + 2).toInt = ((6 * k.toInt) + 2) from (i_addv (i_mulv (show (6 : Int32).toInt = 6 from by decide) rfl (by omega) (by omega)) (show (2 : Int32).toInt = 2 from by decide) (by omega) (by omega))]; constructor <;> omega))) (cwV 2 hts gX11_bears_X11_told rfl rfl rfl (by decide +kernel) ⟨Nat.le_of_ble_eq_true rfl, Nat.le_of_ble_eq_true rfl⟩) pF0_ok trivial hK hP hD hS hA 0 rfl rfl rfl rfl hl.1 rfl (Nat.le_of_ble_eq_true rfl) dX11_bears_39 ⟨Nat.le_refl _, Nat.le_refl _⟩ (fun u_7 H locs eu_7 hP hD hS => ?_)
        refine W.eq (g2 := F0 m 42 ls [.int u_7]) rfl ?_
        have hP : va_P D vwCl (mdW Y cI 0 m_status m_isThere m_kinds m_newKinds m_print m_low m_high m_lot m_taped m_latest m_length m_cursor m_token m_from m_till m_fault m_faultAt m_traced r_lane r_many r_item r_market r_of r_newMarket r_newStart r_newOf r_newCoin r_state u_6 r_tape r_brings r_seen r_seenOut r_trace ++ R) H := hP
        have hD : va_D A (mdW Y cI 0 m_status m_isThere m_kinds m_newKinds m_print m_low m_high m_lot m_taped m_latest m_length m_cursor m_token m_from m_till m_fault m_faultAt m_traced r_lane r_many r_item r_market r_of r_newMarket r_newStart r_newOf r_newCoin r_state u_6 r_tape r_brings r_seen r_seenOut r_trace ++ R) := hD
        refine lv_istore_n (lv' := [(3, .int u_7), (0, .ref (Y 0)), (1, .int k), (2, .int nn)]) hx hb dX11_bears_42 rfl hl (by decide) rfl (fun ls hl => ?_)
        refine lv_iconst (v := 0) hx hb dX11_bears_43 (by decide) ?_
        refine lv_istore (lv' := [(4, .int 0), (3, .int u_7), (0, .ref (Y 0)), (1, .int k), (2, .int nn)]) hx hb dX11_bears_44 hl (by decide) rfl (fun ls hl => ?_)
        refine lv_iconst (v := 1) hx hb dX11_bears_46 (by decide) ?_
        refine lv_istore (lv' := [(5, .int 1), (4, .int 0), (3, .int u_7), (0, .ref (Y 0)), (1, .int k), (2, .int nn)]) hx hb dX11_bears_47 hl (by decide) rfl (fun ls hl => ?_)
        have L_49 : ∀ (n : Nat) (x5_49 : Int32) (x4_49 : Int32) (r_of_49 : Nat → Int32) (r_state_49 : Nat → Int32) (r_brings_49 : Nat → Int32) (H : Heap) (locs : List Loc) (ls : Array Slot), 0 ≤ x4_49.toInt → x4_49.toInt ≤ 40 → x5_49 = 0 ∨ x5_49 = 1 → (40 - x4_49.toInt) + x5_49.toInt < ((n : Nat) : Int) → va_P D vwCl (mdW Y cI 0 m_status m_isThere m_kinds m_newKinds m_print m_low m_high m_lot m_taped m_latest m_length m_cursor m_token m_from m_till m_fault m_faultAt m_traced r_lane r_many r_item r_market r_of_49 r_newMarket r_newStart r_newOf r_newCoin r_state_49 u_6 r_tape r_brings_49 r_seen r_seenOut r_trace ++ R) H → va_D A (mdW Y cI 0 m_status m_isThere m_kinds m_newKinds m_print m_low m_high m_lot m_taped m_latest m_length m_cursor m_token m_from m_till m_fault m_faultAt m_traced r_lane r_many r_item r_market r_of_49 r_newMarket r_newStart r_newOf r_newCoin r_state_49 u_6 r_tape r_brings_49 r_seen r_seenOut r_trace ++ R) → va_S A s.heap H locs → lv_has ls 7 [(5, .int x5_49), (4, .int x4_49), (3, .int u_7), (0, .ref (Y 0)), (1, .int k), (2, .int nn)] → (∀ (u : Int32 × Int32 × (Nat → Int32) × (Nat → Int32) × (Nat → Int32)) (H : Heap) (locs : List Loc) (ls : Array Slot), u = lX11_bears_49 k nn m_kinds m_print m_low m_high m_lot r_market u_6 n x5_49 x4_49 r_of_49 r_state_49 r_brings_49 → va_P D vwCl (mdW Y cI 0 m_status m_isThere m_kinds m_newKinds m_print m_low m_high m_lot m_taped m_latest m_length m_cursor m_token m_from m_till m_fault m_faultAt m_traced r_lane r_many r_item r_market u.2.2.1 r_newMarket r_newStart r_newOf r_newCoin u.2.2.2.1 u_6 r_tape u.2.2.2.2 r_seen r_seenOut r_trace ++ R) H → va_D A (mdW Y cI 0 m_status m_isThere m_kinds m_newKinds m_print m_low m_high m_lot m_taped m_latest m_length m_cursor m_token m_from m_till m_fault m_faultAt m_traced r_lane r_many r_item r_market u.2.2.1 r_newMarket r_newStart r_newOf r_newCoin u.2.2.2.1 u_6 r_tape u.2.2.2.2 r_seen r_seenOut r_trace ++ R) → va_S A s.heap H locs → lv_has ls 7 [(4, .int u.2.1), (3, .int u_7), (0, .ref (Y 0)), (1, .int k)] → W p l e (rmX 7) s m ([.ref (Y 0), .int k, .int nn] : List Value).toArray below meth c H locs 0 0 Qm (F0 m 161 ls [])) → W p l e (rmX 7) s m ([.ref (Y 0), .int k, .int nn] : List Value).toArray below meth c H locs 0 0 Qm (F0 m 49 ls []) := by
          intro n
          induction n with
          | zero =>
            intro x5_49 x4_49 r_of_49 r_state_49 r_brings_49 H locs ls iv_49_0 iv_49_1 iv_49_2 iv_49_3 hP hD hS hl kont_49
            rcases iv_49_2 with h | h <;> (rw [h] at iv_49_3; simp at iv_49_3; omega)
          | succ n ih_49 =>
            intro x5_49 x4_49 r_of_49 r_state_49 r_brings_49 H locs ls iv_49_0 iv_49_1 iv_49_2 iv_49_3 hP hD hS hl kont_49
            refine lv_iload hx hb dX11_bears_49 (lv_at hl 0 rfl) ?_
            refine lv_if_eq (tgt := 161) hx hb dX11_bears_51 (by decide) (fun c_8 => ?_) (fun c_8 => ?_)
            · have d_8 := i_eq rfl (show (0 : Int32).toInt = 0 from by decide) c_8
              exact kont_49 (x5_49, x4_49, r_of_49, r_state_49, r_brings_49) H locs ls (show lX11_bears_49 k nn m_kinds m_print m_low m_high m_lot r_market u_6 (n + 1) x5_49 x4_49 r_of_49 r_state_49 r_brings_49 = (x5_49, x4_49, r_of_49, r_state_49, r_brings_49) from ((if_pos c_8).trans rfl)).symm  hP hD hS (lv_sub hl [1, 2, 3, 4] rfl)
            · have d_8 := i_eqn rfl (show (0 : Int32).toInt = 0 from by decide) c_8
              have dm0 : x5_49.toInt = 1 := by rcases iv_49_2 with h | h <;> first | exact absurd h (by assumption) | (rw [h]; decide)
              refine lv_iload hx hb dX11_bears_54 (lv_at hl 1 rfl) ?_
              refine lv_bipush (v := 40) hx hb dX11_bears_56 (by decide) ?_
              refine lv_icmp_ge (tgt := 161) hx hb dX11_bears_58 (by decide) (fun c_9 => ?_) (fun c_9 => ?_)
              · have d_9 := i_le (show (40 : Int32).toInt = 40 from by decide) rfl c_9
                exact kont_49 (x5_49, x4_49, r_of_49, r_state_49, r_brings_49) H locs ls (show lX11_bears_49 k nn m_kinds m_print m_low m_high m_lot r_market u_6 (n + 1) x5_49 x4_49 r_of_49 r_state_49 r_brings_49 = (x5_49, x4_49, r_of_49, r_state_49, r_brings_49) from ((if_neg c_8).trans ((if_pos c_9).trans rfl))).symm  hP hD hS (lv_sub hl [1, 2, 3, 4] rfl)
              · have d_9 := i_len (show (40 : Int32).toInt = 40 from by decide) rfl c_9
                refine lv_aload_n hx hb dX11_bears_61 rfl (lv_at hl 3 rfl) ?_
                refine va_get (D := D) (ci := 9) (v := .ref (Y 8)) (C := RX11) (T := TX11) (N := 35) hx hb hts iX11 hown hK hP 0 rfl rfl 8 (by decide) k22 (fun _ h9 => h9) rfl dX11_bears_62 ?_
                refine lv_bipush (v := 6) hx hb dX11_bears_65 (by decide) ?_
                refine lv_iload_n hx hb dX11_bears_67 rfl (lv_at hl 4 rfl) ?_
                refine lv_imul hx hb dX11_bears_68 ?_
                refine lv_iconst (v := 2) hx hb dX11_bears_69 (by decide) ?_
                refine lv_iadd hx hb dX11_bears_70 ?_
                refine lv_iload hx hb dX11_bears_71 (lv_at hl 1 rfl) ?_
                refine lv_iconst (v := 1) hx hb dX11_bears_73 (by decide) ?_
                refine lv_iadd hx hb dX11_bears_74 ?_
                have q_10 : vp_in ((6 * k) + 2) 30 := vp_in_iff.mpr (by rw [show ((6 * k) + 2).toInt = ((6 * k.toInt) + 2) from (i_addv (i_mulv (show (6 : Int32).toInt = 6 from by decide) rfl (by omega) (by omega)) (show (2 : Int32).toInt = 2 from by decide) (by omega) (by omega))]; constructor <;> omega)
                refine va_iast hx hb hK hP hD hS 5 0 rfl rfl q_10 dX11_bears_75 (fun H locs hP hD hS => ?_)
                obtain ⟨ar_11, ear_11⟩ : ∃ z : Nat → Int32, z = upd r_of_49 ((6 * k) + 2).toNatClampNeg (x4_49 + 1) := ⟨_, rfl⟩
                have hP : va_P D vwCl (mdW Y cI 0 m_status m_isThere m_kinds m_newKinds m_print m_low m_high m_lot m_taped m_latest m_length m_cursor m_token m_from m_till m_fault m_faultAt m_traced r_lane r_many r_item r_market (upd r_of_49 ((6 * k) + 2).toNatClampNeg (x4_49 + 1)) r_newMarket r_newStart r_newOf r_newCoin r_state_49 u_6 r_tape r_brings_49 r_seen r_seenOut r_trace ++ R) H := hP
                have hD : va_D A (mdW Y cI 0 m_status m_isThere m_kinds m_newKinds m_print m_low m_high m_lot m_taped m_latest m_length m_cursor m_token m_from m_till m_fault m_faultAt m_traced r_lane r_many r_item r_market (upd r_of_49 ((6 * k) + 2).toNatClampNeg (x4_49 + 1)) r_newMarket r_newStart r_newOf r_newCoin r_state_49 u_6 r_tape r_brings_49 r_seen r_seenOut r_trace ++ R) := hD
                rw [← ear_11] at hP hD
                have hP : va_P D vwCl (mdW Y cI 0 m_status m_isThere m_kinds m_newKinds m_print m_low m_high m_lot m_taped m_latest m_length m_cursor m_token m_from m_till m_fault m_faultAt m_traced r_lane r_many r_item r_market ar_11 r_newMarket r_newStart r_newOf r_newCoin r_state_49 u_6 r_tape r_brings_49 r_seen r_seenOut r_trace ++ R) H := hP
                have hD : va_D A (mdW Y cI 0 m_status m_isThere m_kinds m_newKinds m_print m_low m_high m_lot m_taped m_latest m_length m_cursor m_token m_from m_till m_fault m_faultAt m_traced r_lane r_many r_item r_market ar_11 r_newMarket r_newStart r_newOf r_newCoin r_state_49 u_6 r_tape r_brings_49 r_seen r_seenOut r_trace ++ R) := hD
                refine lv_iconst (v := 0) hx hb dX11_bears_76 (by decide) ?_
                refine lv_istore (lv' := [(6, .int 0), (5, .int x5_49), (4, .int x4_49), (3, .int u_7), (0, .ref (Y 0)), (1, .int k), (2, .int nn)]) hx hb dX11_bears_77 hl (by decide) rfl (fun ls hl => ?_)
                have L_79 : ∀ (n : Nat) (x6_79 : Int32) (r_state_79 : Nat → Int32) (r_brings_79 : Nat → Int32) (H : Heap) (locs : List Loc) (ls : Array Slot), 0 ≤ x6_79.toInt → x6_79.toInt ≤ 30 → (30 : Int) < x6_79.toInt + ((n : Nat) : Int) → va_P D vwCl (mdW Y cI 0 m_status m_isThere m_kinds m_newKinds m_print m_low m_high m_lot m_taped m_latest m_length m_cursor m_token m_from m_till m_fault m_faultAt m_traced r_lane r_many r_item r_market ar_11 r_newMarket r_newStart r_newOf r_newCoin r_state_79 u_6 r_tape r_brings_79 r_seen r_seenOut r_trace ++ R) H → va_D A (mdW Y cI 0 m_status m_isThere m_kinds m_newKinds m_print m_low m_high m_lot m_taped m_latest m_length m_cursor m_token m_from m_till m_fault m_faultAt m_traced r_lane r_many r_item r_market ar_11 r_newMarket r_newStart r_newOf r_newCoin r_state_79 u_6 r_tape r_brings_79 r_seen r_seenOut r_trace ++ R) → va_S A s.heap H locs → lv_has ls 7 [(6, .int x6_79), (4, .int x4_49), (3, .int u_7), (0, .ref (Y 0)), (1, .int k), (2, .int nn)] → (∀ (u : Int32 × (Nat → Int32) × (Nat → Int32)) (H : Heap) (locs : List Loc) (ls : Array Slot), u = lX11_bears_79 nn m_kinds m_print m_low m_high m_lot r_market ar_11 n x6_79 r_state_79 r_brings_79 → va_P D vwCl (mdW Y cI 0 m_status m_isThere m_kinds m_newKinds m_print m_low m_high m_lot m_taped m_latest m_length m_cursor m_token m_from m_till m_fault m_faultAt m_traced r_lane r_many r_item r_market ar_11 r_newMarket r_newStart r_newOf r_newCoin u.2.1 u_6 r_tape u.2.2 r_seen r_seenOut r_trace ++ R) H → va_D A (mdW Y cI 0 m_status m_isThere m_kinds m_newKinds m_print m_low m_high m_lot m_taped m_latest m_length m_cursor m_token m_from m_till m_fault m_faultAt m_traced r_lane r_many r_item r_market ar_11 r_newMarket r_newStart r_newOf r_newCoin u.2.1 u_6 r_tape u.2.2 r_seen r_seenOut r_trace ++ R) → va_S A s.heap H locs → lv_has ls 7 [(4, .int x4_49), (3, .int u_7), (0, .ref (Y 0)), (1, .int k), (2, .int nn)] → W p l e (rmX 7) s m ([.ref (Y 0), .int k, .int nn] : List Value).toArray below meth c H locs 0 0 Qm (F0 m 95 ls [])) → W p l e (rmX 7) s m ([.ref (Y 0), .int k, .int nn] : List Value).toArray below meth c H locs 0 0 Qm (F0 m 79 ls []) := by
                  intro n
                  induction n with
                  | zero =>
                    intro x6_79 r_state_79 r_brings_79 H locs ls iv_79_0 iv_79_1 iv_79_2 hP hD hS hl kont_79
                    exfalso; omega
                  | succ n ih_79 =>
                    intro x6_79 r_state_79 r_brings_79 H locs ls iv_79_0 iv_79_1 iv_79_2 hP hD hS hl kont_79
                    refine lv_iload hx hb dX11_bears_79 (lv_at hl 0 rfl) ?_
                    refine lv_iload_n hx hb dX11_bears_81 rfl (lv_at hl 5 rfl) ?_
                    refine lv_icmp_ge (tgt := 95) hx hb dX11_bears_82 (by decide) (fun c_12 => ?_) (fun c_12 => ?_)
                    · have d_12 := i_le rfl rfl c_12
                      exact kont_79 (x6_79, r_state_79, r_brings_79) H locs ls (show lX11_bears_79 nn m_kinds m_print m_low m_high m_lot r_market ar_11 (n + 1) x6_79 r_state_79 r_brings_79 = (x6_79, r_state_79, r_brings_79) from ((if_pos c_12).trans rfl)).symm  hP hD hS (lv_sub hl [1, 2, 3, 4, 5] rfl)
                    · have d_12 := i_len rfl rfl c_12
                      refine lv_aload_n hx hb dX11_bears_85 rfl (lv_at hl 3 rfl) ?_
                      refine mx_callV (As := []) (rest := []) ⟨hx, hb, hml, hown, hts⟩ (mtX11_year l D cI cB cK cS Y R 0 m_status m_isThere m_kinds m_newKinds m_print m_low m_high m_lot m_taped m_latest m_length m_cursor m_token m_from m_till m_fault m_faultAt m_traced r_lane r_many r_item r_market ar_11 r_newMarket r_newStart r_newOf r_newCoin r_state_79 u_6 r_tape r_brings_79 r_seen r_seenOut r_trace (by omega) (hkt (by omega))) (cwV 0 hts gX11_bears_X11_year rfl rfl rfl (by decide +kernel) ⟨Nat.le_of_ble_eq_true rfl, Nat.le_of_ble_eq_true rfl⟩) pF0_ok trivial hK hP hD hS hA 0 rfl rfl rfl rfl hl.1 rfl (Nat.le_of_ble_eq_true rfl) dX11_bears_86 ⟨Nat.le_refl _, Nat.le_refl _⟩ (fun u_13 H locs eu_13 hP hD hS => ?_)
                      refine W.eq (g2 := F0 m 89 ls []) rfl ?_
                      have hP : va_P D vwCl (mdW Y cI 0 m_status m_isThere m_kinds m_newKinds m_print m_low m_high m_lot m_taped m_latest m_length m_cursor m_token m_from m_till m_fault m_faultAt m_traced r_lane r_many r_item r_market ar_11 r_newMarket r_newStart r_newOf r_newCoin u_13.1 u_6 r_tape u_13.2 r_seen r_seenOut r_trace ++ R) H := hP
                      have hD : va_D A (mdW Y cI 0 m_status m_isThere m_kinds m_newKinds m_print m_low m_high m_lot m_taped m_latest m_length m_cursor m_token m_from m_till m_fault m_faultAt m_traced r_lane r_many r_item r_market ar_11 r_newMarket r_newStart r_newOf r_newCoin u_13.1 u_6 r_tape u_13.2 r_seen r_seenOut r_trace ++ R) := hD
                      obtain ⟨x_14, ex_14⟩ : ∃ z : Int32, z = x6_79 + 1 := ⟨_, rfl⟩
                      refine lv_iinc (v := x_14) (lv' := [(6, .int x_14), (4, .int x4_49), (3, .int u_7), (0, .ref (Y 0)), (1, .int k), (2, .int nn)]) hx hb dX11_bears_89 hl (k := 0) rfl (by rw [ex_14]; rfl) (by decide) rfl (fun ls hl => ?_)
                      refine lv_goto (tgt := 79) hx hb dX11_bears_92 (by decide) ?_
                      have tx_14 : x_14.toInt = x6_79.toInt + 1 := i_inc ex_14 (by decide) (by omega) (by omega)
                      refine ih_79 x_14 u_13.1 u_13.2 H locs ls (by omega) (by omega) (by omega) hP hD hS (lv_sub hl [0, 1, 2, 3, 4, 5] rfl) (fun u H locs ls eu  hP hD hS hl => ?_)
                      exact kont_79 u H locs ls (eu.trans (show lX11_bears_79 nn m_kinds m_print m_low m_high m_lot r_market ar_11 (n + 1) x6_79 r_state_79 r_brings_79 = lX11_bears_79 nn m_kinds m_print m_low m_high m_lot r_market ar_11 n x_14 u_13.1 u_13.2 from ((if_neg c_12).trans (lt_eq eu_13 (lt_eq ex_14 rfl)))).symm)  hP hD hS hl
                refine L_79 31 0 r_state_49 r_brings_49 H locs ls (by decide) (by decide) (by decide) hP hD hS (lv_sub hl [0, 2, 3, 4, 5, 6] rfl) (fun u_15 H locs ls eu_15  hP hD hS hl => ?_)
                have hP : va_P D vwCl (mdW Y cI 0 m_status m_isThere m_kinds m_newKinds m_print m_low m_high m_lot m_taped m_latest m_length m_cursor m_token m_from m_till m_fault m_faultAt m_traced r_lane r_many r_item r_market ar_11 r_newMarket r_newStart r_newOf r_newCoin u_15.2.1 u_6 r_tape u_15.2.2 r_seen r_seenOut r_trace ++ R) H := hP
                have hD : va_D A (mdW Y cI 0 m_status m_isThere m_kinds m_newKinds m_print m_low m_high m_lot m_taped m_latest m_length m_cursor m_token m_from m_till m_fault m_faultAt m_traced r_lane r_many r_item r_market ar_11 r_newMarket r_newStart r_newOf r_newCoin u_15.2.1 u_6 r_tape u_15.2.2 r_seen r_seenOut r_trace ++ R) := hD
                refine lv_aload_n hx hb dX11_bears_95 rfl (lv_at hl 2 rfl) ?_
                refine va_get (D := D) (ci := 9) (v := .ref (Y 14)) (C := RX11) (T := TX11) (N := 35) hx hb hts iX11 hown hK hP 0 rfl rfl 14 (by decide) k37 (fun _ h9 => h9) rfl dX11_bears_96 ?_
                refine lv_bipush (v := 7) hx hb dX11_bears_99 (by decide) ?_
                refine lv_iload_n hx hb dX11_bears_101 rfl (lv_at hl 3 rfl) ?_
                refine lv_iadd hx hb dX11_bears_102 ?_
                have q_16 : vp_in (7 + k) 17 := vp_in_iff.mpr (by rw [show (7 + k).toInt = (7 + k.toInt) from (i_addv (show (7 : Int32).toInt = 7 from by decide) rfl (by omega) (by omega))]; constructor <;> omega)
                refine va_iald hx hb hK hP 10 0 rfl rfl q_16 dX11_bears_103 ?_
                refine lv_aload_n hx hb dX11_bears_104 rfl (lv_at hl 2 rfl) ?_
                refine va_get (D := D) (ci := 9) (v := .ref (Y 15)) (C := RX11) (T := TX11) (N := 35) hx hb hts iX11 hown hK hP 0 rfl rfl 15 (by decide) k40 (fun _ h9 => h9) rfl dX11_bears_105 ?_
                refine lv_bipush (v := 7) hx hb dX11_bears_108 (by decide) ?_
                refine lv_iload_n hx hb dX11_bears_110 rfl (lv_at hl 3 rfl) ?_
                refine lv_iadd hx hb dX11_bears_111 ?_
                have q_17 : vp_in (7 + k) 17 := vp_in_iff.mpr (by rw [show (7 + k).toInt = (7 + k.toInt) from (i_addv (show (7 : Int32).toInt = 7 from by decide) rfl (by omega) (by omega))]; constructor <;> omega)
                refine va_iald hx hb hK hP 11 0 rfl rfl q_17 dX11_bears_112 ?_
                refine lv_isub hx hb dX11_bears_113 ?_
                refine lv_aload_n hx hb dX11_bears_114 rfl (lv_at hl 2 rfl) ?_
                refine va_get (D := D) (ci := 9) (v := .ref (Y 14)) (C := RX11) (T := TX11) (N := 35) hx hb hts iX11 hown hK hP 0 rfl rfl 14 (by decide) k37 (fun _ h9 => h9) rfl dX11_bears_115 ?_
                refine lv_bipush (v := 7) hx hb dX11_bears_118 (by decide) ?_
                have q_18 : vp_in (7 : Int32) 17 := vp_in_iff.mpr (by decide)
                refine va_iald hx hb hK hP 10 0 rfl rfl q_18 dX11_bears_120 ?_
                refine W.eq (g2 := F0 m 121 ls [.int (u_15.2.1 7), .int ((u_15.2.1 (7 + k).toNatClampNeg) - (u_6 (7 + k).toNatClampNeg))]) rfl ?_
                refine lv_aload_n hx hb dX11_bears_121 rfl (lv_at hl 2 rfl) ?_
                refine va_get (D := D) (ci := 9) (v := .ref (Y 15)) (C := RX11) (T := TX11) (N := 35) hx hb hts iX11 hown hK hP 0 rfl rfl 15 (by decide) k40 (fun _ h9 => h9) rfl dX11_bears_122 ?_
                refine lv_bipush (v := 7) hx hb dX11_bears_125 (by decide) ?_
                have q_19 : vp_in (7 : Int32) 17 := vp_in_iff.mpr (by decide)
                refine va_iald hx hb hK hP 11 0 rfl rfl q_19 dX11_bears_127 ?_
                refine W.eq (g2 := F0 m 128 ls [.int (u_6 7), .int (u_15.2.1 7), .int ((u_15.2.1 (7 + k).toNatClampNeg) - (u_6 (7 + k).toNatClampNeg))]) rfl ?_
                refine lv_isub hx hb dX11_bears_128 ?_
                have J_20 : ∀ (y_20 : Int32) (H : Heap) (locs : List Loc) (ls : Array Slot), y_20 = (if ((u_15.2.1 (7 + k).toNatClampNeg) - (u_6 (7 + k).toNatClampNeg)) < ((u_15.2.1 7) - (u_6 7)) then (0) else (1)) → va_P D vwCl (mdW Y cI 0 m_status m_isThere m_kinds m_newKinds m_print m_low m_high m_lot m_taped m_latest m_length m_cursor m_token m_from m_till m_fault m_faultAt m_traced r_lane r_many r_item r_market ar_11 r_newMarket r_newStart r_newOf r_newCoin u_15.2.1 u_6 r_tape u_15.2.2 r_seen r_seenOut r_trace ++ R) H → va_D A (mdW Y cI 0 m_status m_isThere m_kinds m_newKinds m_print m_low m_high m_lot m_taped m_latest m_length m_cursor m_token m_from m_till m_fault m_faultAt m_traced r_lane r_many r_item r_market ar_11 r_newMarket r_newStart r_newOf r_newCoin u_15.2.1 u_6 r_tape u_15.2.2 r_seen r_seenOut r_trace ++ R) → va_S A s.heap H locs → lv_has ls 7 [(4, .int x4_49), (3, .int u_7), (0, .ref (Y 0)), (1, .int k), (2, .int nn)] → W p l e (rmX 7) s m ([.ref (Y 0), .int k, .int nn] : List Value).toArray below meth c H locs 0 0 Qm (F0 m 137 ls [.int y_20]) := by
                  intro y_20 H locs ls ey_20 hP hD hS hl
                  have hm5 : y_20 = 0 ∨ y_20 = 1 := by rw [ey_20]; (repeat' split) <;> simp
                  have dm5 : y_20.toInt = 0 ∨ y_20.toInt = 1 := by rcases hm5 with h | h <;> (rw [h]; decide)
                  refine lv_istore (lv' := [(5, .int y_20), (4, .int x4_49), (3, .int u_7), (0, .ref (Y 0)), (1, .int k), (2, .int nn)]) hx hb dX11_bears_137 hl (by decide) rfl (fun ls hl => ?_)
                  refine lv_iload hx hb dX11_bears_139 (lv_at hl 1 rfl) ?_
                  refine lv_iload hx hb dX11_bears_141 (lv_at hl 0 rfl) ?_
                  have J_22 : ∀ (y_22 : Int32) (H : Heap) (locs : List Loc) (ls : Array Slot), y_22 = (if y_20 = 0 then (0) else (1)) → va_P D vwCl (mdW Y cI 0 m_status m_isThere m_kinds m_newKinds m_print m_low m_high m_lot m_taped m_latest m_length m_cursor m_token m_from m_till m_fault m_faultAt m_traced r_lane r_many r_item r_market ar_11 r_newMarket r_newStart r_newOf r_newCoin u_15.2.1 u_6 r_tape u_15.2.2 r_seen r_seenOut r_trace ++ R) H → va_D A (mdW Y cI 0 m_status m_isThere m_kinds m_newKinds m_print m_low m_high m_lot m_taped m_latest m_length m_cursor m_token m_from m_till m_fault m_faultAt m_traced r_lane r_many r_item r_market ar_11 r_newMarket r_newStart r_newOf r_newCoin u_15.2.1 u_6 r_tape u_15.2.2 r_seen r_seenOut r_trace ++ R) → va_S A s.heap H locs → lv_has ls 7 [(5, .int y_20), (3, .int u_7), (0, .ref (Y 0)), (1, .int k), (2, .int nn)] → W p l e (rmX 7) s m ([.ref (Y 0), .int k, .int nn] : List Value).toArray below meth c H locs 0 0 Qm (F0 m 151 ls [.int y_22, .int x4_49]) := by
                    intro y_22 H locs ls ey_22 hP hD hS hl
                    have dmb : y_22.toInt = y_20.toInt := by rw [b01 hm5 ey_22]
                    refine lv_iadd hx hb dX11_bears_151 ?_
                    refine lv_topi (fun x_24 ex_24 => ?_)
                    refine lv_istore (lv' := [(4, .int x_24), (5, .int y_20), (3, .int u_7), (0, .ref (Y 0)), (1, .int k), (2, .int nn)]) hx hb dX11_bears_152 hl (by decide) rfl (fun ls hl => ?_)
                    refine lv_aload_n hx hb dX11_bears_154 rfl (lv_at hl 3 rfl) ?_
                    refine mx_callV (As := []) (rest := []) ⟨hx, hb, hml, hown, hts⟩ (mtX11_comeBack l D cI cB cK cS Y R 0 m_status m_isThere m_kinds m_newKinds m_print m_low m_high m_lot m_taped m_latest m_length m_cursor m_token m_from m_till m_fault m_faultAt m_traced r_lane r_many r_item r_market ar_11 r_newMarket r_newStart r_newOf r_newCoin u_15.2.1 u_6 r_tape u_15.2.2 r_seen r_seenOut r_trace) (cwV 0 hts gX11_bears_X11_comeBack rfl rfl rfl (by decide +kernel) ⟨Nat.le_of_ble_eq_true rfl, Nat.le_of_ble_eq_true rfl⟩) pF0_ok trivial hK hP hD hS hA 0 rfl rfl rfl rfl hl.1 rfl (Nat.le_of_ble_eq_true rfl) dX11_bears_155 ⟨Nat.le_refl _, Nat.le_refl _⟩ (fun u_25 H locs eu_25 hP hD hS => ?_)
                    refine W.eq (g2 := F0 m 158 ls []) rfl ?_
                    have hP : va_P D vwCl (mdW Y cI 0 m_status m_isThere m_kinds m_newKinds m_print m_low m_high m_lot m_taped m_latest m_length m_cursor m_token m_from m_till m_fault m_faultAt m_traced r_lane r_many r_item r_market ar_11 r_newMarket r_newStart r_newOf r_newCoin u_25 u_6 r_tape u_15.2.2 r_seen r_seenOut r_trace ++ R) H := hP
                    have hD : va_D A (mdW Y cI 0 m_status m_isThere m_kinds m_newKinds m_print m_low m_high m_lot m_taped m_latest m_length m_cursor m_token m_from m_till m_fault m_faultAt m_traced r_lane r_many r_item r_market ar_11 r_newMarket r_newStart r_newOf r_newCoin u_25 u_6 r_tape u_15.2.2 r_seen r_seenOut r_trace ++ R) := hD
                    refine lv_goto (tgt := 49) hx hb dX11_bears_158 (by decide) ?_
                    have tm4 : x_24.toInt = x4_49.toInt + y_22.toInt := by rw [ex_24]; exact i_addv rfl rfl (by omega) (by omega)
                    refine ih_49 y_20 x_24 ar_11 u_25 u_15.2.2 H locs ls (by omega) (by omega) hm5 (by omega) hP hD hS (lv_sub hl [1, 0, 2, 3, 4, 5] rfl) (fun u H locs ls eu  hP hD hS hl => ?_)
                    exact kont_49 u H locs ls (eu.trans (show lX11_bears_49 k nn m_kinds m_print m_low m_high m_lot r_market u_6 (n + 1) x5_49 x4_49 r_of_49 r_state_49 r_brings_49 = lX11_bears_49 k nn m_kinds m_print m_low m_high m_lot r_market u_6 n y_20 x_24 ar_11 u_25 u_15.2.2 from ((if_neg c_8).trans ((if_neg c_9).trans (lt_eq ear_11 (lt_eq eu_15 (lt_eq ey_20 (lt_eq ey_22 (lt_eq ex_24 (lt_eq eu_25 rfl))))))))).symm)  hP hD hS hl
                  refine lv_if_eq (tgt := 150) hx hb dX11_bears_143 (by decide) (fun c_23 => ?_) (fun c_23 => ?_)
                  · have d_23 := i_eq rfl (show (0 : Int32).toInt = 0 from by decide) c_23
                    refine lv_iconst (v := 0) hx hb dX11_bears_150 (by decide) ?_
                    exact J_22 0 H locs ls (Eq.symm ((if_pos c_23).trans rfl)) hP hD hS (lv_sub hl [0, 2, 3, 4, 5] rfl)
                  · have d_23 := i_eqn rfl (show (0 : Int32).toInt = 0 from by decide) c_23
                    refine lv_iconst (v := 1) hx hb dX11_bears_146 (by decide) ?_
                    refine lv_goto (tgt := 151) hx hb dX11_bears_147 (by decide) ?_
                    exact J_22 1 H locs ls (Eq.symm ((if_neg c_23).trans rfl)) hP hD hS (lv_sub hl [0, 2, 3, 4, 5] rfl)
                refine lv_icmp_lt (tgt := 136) hx hb dX11_bears_129 (by decide) (fun c_21 => ?_) (fun c_21 => ?_)
                · have d_21 := i_lt rfl rfl c_21
                  refine lv_iconst (v := 0) hx hb dX11_bears_136 (by decide) ?_
                  exact J_20 0 H locs ls (Eq.symm ((if_pos c_21).trans rfl)) hP hD hS (lv_sub hl [0, 1, 2, 3, 4] rfl)
                · have d_21 := i_ltn rfl rfl c_21
                  refine lv_iconst (v := 1) hx hb dX11_bears_132 (by decide) ?_
                  refine lv_goto (tgt := 137) hx hb dX11_bears_133 (by decide) ?_
                  exact J_20 1 H locs ls (Eq.symm ((if_neg c_21).trans rfl)) hP hD hS (lv_sub hl [0, 1, 2, 3, 4] rfl)
        refine L_49 42 1 0 r_of r_state r_brings H locs ls (by decide) (by decide) (Or.inr rfl) (by decide) hP hD hS (lv_sub hl [0, 1, 2, 3, 4, 5] rfl) (fun u_26 H locs ls eu_26  hP hD hS hl => ?_)
        have hP : va_P D vwCl (mdW Y cI 0 m_status m_isThere m_kinds m_newKinds m_print m_low m_high m_lot m_taped m_latest m_length m_cursor m_token m_from m_till m_fault m_faultAt m_traced r_lane r_many r_item r_market u_26.2.2.1 r_newMarket r_newStart r_newOf r_newCoin u_26.2.2.2.1 u_6 r_tape u_26.2.2.2.2 r_seen r_seenOut r_trace ++ R) H := hP
        have hD : va_D A (mdW Y cI 0 m_status m_isThere m_kinds m_newKinds m_print m_low m_high m_lot m_taped m_latest m_length m_cursor m_token m_from m_till m_fault m_faultAt m_traced r_lane r_many r_item r_market u_26.2.2.1 r_newMarket r_newStart r_newOf r_newCoin u_26.2.2.2.1 u_6 r_tape u_26.2.2.2.2 r_seen r_seenOut r_trace ++ R) := hD
        refine lv_aload_n hx hb dX11_bears_161 rfl (lv_at hl 2 rfl) ?_
        refine va_get (D := D) (ci := 9) (v := .ref (Y 8)) (C := RX11) (T := TX11) (N := 35) hx hb hts iX11 hown hK hP 0 rfl rfl 8 (by decide) k22 (fun _ h9 => h9) rfl dX11_bears_162 ?_
        refine lv_bipush (v := 6) hx hb dX11_bears_165 (by decide) ?_
        refine lv_iload_n hx hb dX11_bears_167 rfl (lv_at hl 3 rfl) ?_
        refine lv_imul hx hb dX11_bears_168 ?_
        refine lv_iconst (v := 2) hx hb dX11_bears_169 (by decide) ?_
        refine lv_iadd hx hb dX11_bears_170 ?_
        refine lv_iload_n hx hb dX11_bears_171 rfl (lv_at hl 1 rfl) ?_
        have q_27 : vp_in ((6 * k) + 2) 30 := vp_in_iff.mpr (by rw [show ((6 * k) + 2).toInt = ((6 * k.toInt) + 2) from (i_addv (i_mulv (show (6 : Int32).toInt = 6 from by decide) rfl (by omega) (by omega)) (show (2 : Int32).toInt = 2 from by decide) (by omega) (by omega))]; constructor <;> omega)
        refine va_iast hx hb hK hP hD hS 5 0 rfl rfl q_27 dX11_bears_172 (fun H locs hP hD hS => ?_)
        obtain ⟨ar_28, ear_28⟩ : ∃ z : Nat → Int32, z = upd u_26.2.2.1 ((6 * k) + 2).toNatClampNeg u_7 := ⟨_, rfl⟩
        have hP : va_P D vwCl (mdW Y cI 0 m_status m_isThere m_kinds m_newKinds m_print m_low m_high m_lot m_taped m_latest m_length m_cursor m_token m_from m_till m_fault m_faultAt m_traced r_lane r_many r_item r_market (upd u_26.2.2.1 ((6 * k) + 2).toNatClampNeg u_7) r_newMarket r_newStart r_newOf r_newCoin u_26.2.2.2.1 u_6 r_tape u_26.2.2.2.2 r_seen r_seenOut r_trace ++ R) H := hP
        have hD : va_D A (mdW Y cI 0 m_status m_isThere m_kinds m_newKinds m_print m_low m_high m_lot m_taped m_latest m_length m_cursor m_token m_from m_till m_fault m_faultAt m_traced r_lane r_many r_item r_market (upd u_26.2.2.1 ((6 * k) + 2).toNatClampNeg u_7) r_newMarket r_newStart r_newOf r_newCoin u_26.2.2.2.1 u_6 r_tape u_26.2.2.2.2 r_seen r_seenOut r_trace ++ R) := hD
        rw [← ear_28] at hP hD
        have hP : va_P D vwCl (mdW Y cI 0 m_status m_isThere m_kinds m_newKinds m_print m_low m_high m_lot m_taped m_latest m_length m_cursor m_token m_from m_till m_fault m_faultAt m_traced r_lane r_many r_item r_market ar_28 r_newMarket r_newStart r_newOf r_newCoin u_26.2.2.2.1 u_6 r_tape u_26.2.2.2.2 r_seen r_seenOut r_trace ++ R) H := hP
        have hD : va_D A (mdW Y cI 0 m_status m_isThere m_kinds m_newKinds m_print m_low m_high m_lot m_taped m_latest m_length m_cursor m_token m_from m_till m_fault m_faultAt m_traced r_lane r_many r_item r_market ar_28 r_newMarket r_newStart r_newOf r_newCoin u_26.2.2.2.1 u_6 r_tape u_26.2.2.2.2 r_seen r_seenOut r_trace ++ R) := hD
        refine lv_iload hx hb dX11_bears_173 (lv_at hl 0 rfl) ?_
        rw [hQm]
        exact mx_iret (u0 := sX11_bears k nn m_kinds m_print m_low m_high m_lot r_market r_of r_state r_kept r_brings) (rv := (fun u => some (.int u.1))) (w1 := (fun u => mdW Y cI u.2.1 m_status m_isThere m_kinds m_newKinds m_print m_low m_high m_lot m_taped m_latest m_length m_cursor m_token m_from m_till m_fault m_faultAt m_traced r_lane r_many r_item r_market u.2.2.1 r_newMarket r_newStart r_newOf r_newCoin u.2.2.2.1 u.2.2.2.2.1 r_tape u.2.2.2.2.2 r_seen r_seenOut r_trace ++ R)) (u := (u_26.2.1, 0, ar_28, u_26.2.2.2.1, u_6, u_26.2.2.2.2)) hx hb hr hlocks hK hS (lt_eq eu_1 ((if_neg c_2).trans ((if_neg c_3).trans (lt_eq eu_4 ((if_neg c_5).trans (lt_eq eu_6 (lt_eq eu_7 (lt_eq eu_26 (lt_eq ear_28 rfl))))))))) hP hD rfl dX11_bears_175
      · have d_5 := i_eq rfl (show (0 : Int32).toInt = 0 from by decide) c_5
        refine lv_ldc (v := (-1000001)) hx hb hown k78 dX11_bears_29 ?_
        rw [hQm]
        exact mx_iret (u0 := sX11_bears k nn m_kinds m_print m_low m_high m_lot r_market r_of r_state r_kept r_brings) (rv := (fun u => some (.int u.1))) (w1 := (fun u => mdW Y cI u.2.1 m_status m_isThere m_kinds m_newKinds m_print m_low m_high m_lot m_taped m_latest m_length m_cursor m_token m_from m_till m_fault m_faultAt m_traced r_lane r_many r_item r_market u.2.2.1 r_newMarket r_newStart r_newOf r_newCoin u.2.2.2.1 u.2.2.2.2.1 r_tape u.2.2.2.2.2 r_seen r_seenOut r_trace ++ R)) (u := ((-1000001), 0, r_of, r_state, r_kept, r_brings)) hx hb hr hlocks hK hS (lt_eq eu_1 ((if_neg c_2).trans ((if_neg c_3).trans (lt_eq eu_4 ((if_pos c_5).trans rfl))))) hP hD rfl dX11_bears_31

def lX11_prints_41 (k : Int32) (m_kinds : Int32) (m_low : Int32) (m_high : Int32) (m_lot : Int32) (r_market : Nat → Int32) (r_of : Nat → Int32) (u_3 : (Nat → Int32)) : Nat → Int32 → Int32 → Int32 → Int32 → (Nat → Int32) → (Nat → Int32) → Int32 × Int32 × Int32 × Int32 × (Nat → Int32) × (Nat → Int32)
  | 0, x5_41, x4_41, x3_41, m_print_41, r_state_41, r_brings_41 => (x5_41, x4_41, x3_41, m_print_41, r_state_41, r_brings_41)
  | n + 1, x5_41, x4_41, x3_41, m_print_41, r_state_41, r_brings_41 => if 100 ≤ x5_41 then ((x5_41, x4_41, x3_41, m_print_41, r_state_41, r_brings_41)) else (lt (sX11_year m_kinds x5_41 m_low m_high m_lot r_market r_of r_state_41 r_brings_41) (fun u_5 : (Nat → Int32) × (Nat → Int32) => lt (if (u_5.1 0) = x5_41 then (lt (if x3_41 = k then (x5_41) else (x4_41)) (fun y_11 : Int32 => lt (x3_41 + 1) (fun x_13 : Int32 => (x_13, y_11)))) else ((x3_41, x4_41))) (fun y_9 : Int32 × Int32 => lt (sX11_comeBack u_5.1 u_3) (fun u_14 : (Nat → Int32) => lt (x5_41 + 1) (fun x_15 : Int32 => lX11_prints_41 k m_kinds m_low m_high m_lot r_market r_of u_3 n x_15 y_9.2 y_9.1 x5_41 u_14 u_5.2)))))

def sX11_prints (k : Int32) (m_isThere : Int32) (m_kinds : Int32) (m_print : Int32) (m_low : Int32) (m_high : Int32) (m_lot : Int32) (r_market : Nat → Int32) (r_of : Nat → Int32) (r_state : Nat → Int32) (r_kept : Nat → Int32) (r_brings : Nat → Int32) : Int32 × (Int32) × (Int32) × (Nat → Int32) × (Nat → Int32) × (Nat → Int32) := if (-1) ≤ k then (if m_isThere = 0 then (((-1000002), 0, m_print, r_state, r_kept, r_brings)) else (lt (sX11_keep r_state r_kept) (fun u_3 : (Nat → Int32) => lt (lX11_prints_41 k m_kinds m_low m_high m_lot r_market r_of u_3 101 0 (-1000000) 0 m_print r_state r_brings) (fun u_16 : Int32 × Int32 × Int32 × Int32 × (Nat → Int32) × (Nat → Int32) => if k = (-1) then ((u_16.2.2.1, 0, m_print, u_16.2.2.2.2.1, u_3, u_16.2.2.2.2.2)) else ((u_16.2.1, 0, m_print, u_16.2.2.2.2.1, u_3, u_16.2.2.2.2.2)))))) else (((-1000001), 0, m_print, r_state, r_kept, r_brings))
set_option maxHeartbeats 4000000 in
set_option maxRecDepth 100000 in
theorem mtX11_prints (l : Launch) (D : va_G) (cI cB cK cS : ClassId) (Y : Nat → Nat) (R : va_W) (m_thrown : Int32) (m_status : Int32) (m_isThere : Int32) (m_kinds : Int32) (m_newKinds : Int32) (m_print : Int32) (m_low : Int32) (m_high : Int32) (m_lot : Int32) (m_taped : Int32) (m_latest : Int32) (m_length : Int32) (m_cursor : Int32) (m_token : Int32) (m_from : Int32) (m_till : Int32) (m_fault : Int32) (m_faultAt : Int32) (m_traced : Int32) (r_lane : Nat → Int32) (r_many : Nat → Int32) (r_item : Nat → Int32) (r_market : Nat → Int32) (r_of : Nat → Int32) (r_newMarket : Nat → Int32) (r_newStart : Nat → Int32) (r_newOf : Nat → Int32) (r_newCoin : Nat → Int32) (r_state : Nat → Int32) (r_kept : Nat → Int32) (r_tape : Nat → Int32) (r_brings : Nat → Int32) (r_seen : Nat → Int32) (r_seenOut : Nat → Int32) (r_trace : Nat → Int32) (k : Int32) (hkd : m_kinds.toInt ≤ 5) (hth : ¬ m_isThere = 0 → ¬ r_market 1 = 0) : MX l yX11_prints wsX11_prints (rmX 7) D (tyX cI cB cK cS) pF0 (mdW Y cI m_thrown m_status m_isThere m_kinds m_newKinds m_print m_low m_high m_lot m_taped m_latest m_length m_cursor m_token m_from m_till m_fault m_faultAt m_traced r_lane r_many r_item r_market r_of r_newMarket r_newStart r_newOf r_newCoin r_state r_kept r_tape r_brings r_seen r_seenOut r_trace ++ R) [.ref (Y 0), .int k] (sX11_prints k m_isThere m_kinds m_print m_low m_high m_lot r_market r_of r_state r_kept r_brings) (fun u => some (.int u.1)) (fun u => mdW Y cI u.2.1 m_status m_isThere m_kinds m_newKinds u.2.2.1 m_low m_high m_lot m_taped m_latest m_length m_cursor m_token m_from m_till m_fault m_faultAt m_traced r_lane r_many r_item r_market r_of r_newMarket r_newStart r_newOf r_newCoin u.2.2.2.1 u.2.2.2.2.1 r_tape u.2.2.2.2.2 r_seen r_seenOut r_trace ++ R) := by
  refine mx_intro (cc := cX11_prints) (maxL := 6) (ret := (some .int)) (by decide) rfl (Nat.le_of_ble_eq_true rfl) ?_
  intro p e s m below meth c A ls H locs Qm hQm hx hb hr hml hts hown hlocks hA hS hP hK hD hF hl
  have hown : s.vm.findClass RX11 = some m.cls := hown
  have hl : lv_has ls 6 [(0, .ref (Y 0)), (1, .int k)] := hl
  have k58 := hts (.fieldLink RX11 58 "PigRoundsModel" "thrown" "I") (by decide +kernel)
  have k176 := hts (.fieldLink RX11 176 "PigRoundsModel" "isThere" "Z") (by decide +kernel)
  have k185 := hts (.fieldLink RX11 185 "PigRoundsModel" "print" "I") (by decide +kernel)
  have k94 := hts (.constant RX11 94 (-1000000)) (by decide +kernel)
  have k37 := hts (.fieldLink RX11 37 "PigRoundsModel" "state" "[I") (by decide +kernel)
  have k231 := hts (.constant RX11 231 (-1000002)) (by decide +kernel)
  have k78 := hts (.constant RX11 78 (-1000001)) (by decide +kernel)
  have iX11 : ∀ w ∈ u_ws RX11 TX11 35, w ∈ wsX11_prints := by decide +kernel
  refine lv_aload_n hx hb dX11_prints_0 rfl (lv_at hl 0 rfl) ?_
  refine lv_iconst (v := 0) hx hb dX11_prints_1 (by decide) ?_
  refine va_put (D := D) (ci := 9) (v := .int 0) (ty := .int) (C := RX11) (T := TX11) (N := 35) hx hb hts iX11 tyX11 tyX11_ok nmX11 hown hK hP hD hS 0 rfl rfl 0 (by decide) k58 (fun _ h9 => h9) rfl (by decide +kernel) rfl rfl (Nat.le_of_ble_eq_true rfl) dX11_prints_2 (fun H locs hP hD hS => ?_)
  have hP : va_P D vwCl (mdW Y cI 0 m_status m_isThere m_kinds m_newKinds m_print m_low m_high m_lot m_taped m_latest m_length m_cursor m_token m_from m_till m_fault m_faultAt m_traced r_lane r_many r_item r_market r_of r_newMarket r_newStart r_newOf r_newCoin r_state r_kept r_tape r_brings r_seen r_seenOut r_trace ++ R) H := hP
  have hD : va_D A (mdW Y cI 0 m_status m_isThere m_kinds m_newKinds m_print m_low m_high m_lot m_taped m_latest m_length m_cursor m_token m_from m_till m_fault m_faultAt m_traced r_lane r_many r_item r_market r_of r_newMarket r_newStart r_newOf r_newCoin r_state r_kept r_tape r_brings r_seen r_seenOut r_trace ++ R) := hD
  refine lv_iload_n hx hb dX11_prints_5 rfl (lv_at hl 1 rfl) ?_
  refine lv_iconst (v := (-1)) hx hb dX11_prints_6 (by decide) ?_
  refine lv_icmp_ge (tgt := 13) hx hb dX11_prints_7 (by decide) (fun c_1 => ?_) (fun c_1 => ?_)
  · have d_1 := i_le (show ((-1) : Int32).toInt = (-1) from by decide) rfl c_1
    refine lv_aload_n hx hb dX11_prints_13 rfl (lv_at hl 0 rfl) ?_
    refine va_get (D := D) (ci := 9) (v := .int m_isThere) (C := RX11) (T := TX11) (N := 35) hx hb hts iX11 hown hK hP 0 rfl rfl 5 (by decide) k176 (fun _ h9 => h9) rfl dX11_prints_14 ?_
    refine lv_if_ne (tgt := 23) hx hb dX11_prints_17 (by decide) (fun c_2 => ?_) (fun c_2 => ?_)
    · have d_2 := i_eqn rfl (show (0 : Int32).toInt = 0 from by decide) c_2
      refine lv_aload_n hx hb dX11_prints_23 rfl (lv_at hl 0 rfl) ?_
      refine va_get (D := D) (ci := 9) (v := .int m_print) (C := RX11) (T := TX11) (N := 35) hx hb hts iX11 hown hK hP 0 rfl rfl 16 (by decide) k185 (fun _ h9 => h9) rfl dX11_prints_24 ?_
      refine lv_istore_n (lv' := [(2, .int m_print), (0, .ref (Y 0)), (1, .int k)]) hx hb dX11_prints_27 rfl hl (by decide) rfl (fun ls hl => ?_)
      refine lv_iconst (v := 0) hx hb dX11_prints_28 (by decide) ?_
      refine lv_istore_n (lv' := [(3, .int 0), (2, .int m_print), (0, .ref (Y 0)), (1, .int k)]) hx hb dX11_prints_29 rfl hl (by decide) rfl (fun ls hl => ?_)
      refine lv_ldc (v := (-1000000)) hx hb hown k94 dX11_prints_30 ?_
      refine lv_istore (lv' := [(4, .int (-1000000)), (3, .int 0), (2, .int m_print), (0, .ref (Y 0)), (1, .int k)]) hx hb dX11_prints_32 hl (by decide) rfl (fun ls hl => ?_)
      refine lv_aload_n hx hb dX11_prints_34 rfl (lv_at hl 3 rfl) ?_
      refine mx_callV (As := []) (rest := []) ⟨hx, hb, hml, hown, hts⟩ (mtX11_keep l D cI cB cK cS Y R 0 m_status m_isThere m_kinds m_newKinds m_print m_low m_high m_lot m_taped m_latest m_length m_cursor m_token m_from m_till m_fault m_faultAt m_traced r_lane r_many r_item r_market r_of r_newMarket r_newStart r_newOf r_newCoin r_state r_kept r_tape r_brings r_seen r_seenOut r_trace) (cwV 0 hts gX11_prints_X11_keep rfl rfl rfl (by decide +kernel) ⟨Nat.le_of_ble_eq_true rfl, Nat.le_of_ble_eq_true rfl⟩) pF0_ok trivial hK hP hD hS hA 0 rfl rfl rfl rfl hl.1 rfl (Nat.le_of_ble_eq_true rfl) dX11_prints_35 ⟨Nat.le_refl _, Nat.le_refl _⟩ (fun u_3 H locs eu_3 hP hD hS => ?_)
      refine W.eq (g2 := F0 m 38 ls []) rfl ?_
      have hP : va_P D vwCl (mdW Y cI 0 m_status m_isThere m_kinds m_newKinds m_print m_low m_high m_lot m_taped m_latest m_length m_cursor m_token m_from m_till m_fault m_faultAt m_traced r_lane r_many r_item r_market r_of r_newMarket r_newStart r_newOf r_newCoin r_state u_3 r_tape r_brings r_seen r_seenOut r_trace ++ R) H := hP
      have hD : va_D A (mdW Y cI 0 m_status m_isThere m_kinds m_newKinds m_print m_low m_high m_lot m_taped m_latest m_length m_cursor m_token m_from m_till m_fault m_faultAt m_traced r_lane r_many r_item r_market r_of r_newMarket r_newStart r_newOf r_newCoin r_state u_3 r_tape r_brings r_seen r_seenOut r_trace ++ R) := hD
      refine lv_iconst (v := 0) hx hb dX11_prints_38 (by decide) ?_
      refine lv_istore (lv' := [(5, .int 0), (4, .int (-1000000)), (3, .int 0), (2, .int m_print), (0, .ref (Y 0)), (1, .int k)]) hx hb dX11_prints_39 hl (by decide) rfl (fun ls hl => ?_)
      have L_41 : ∀ (n : Nat) (x5_41 : Int32) (x4_41 : Int32) (x3_41 : Int32) (m_print_41 : Int32) (r_state_41 : Nat → Int32) (r_brings_41 : Nat → Int32) (H : Heap) (locs : List Loc) (ls : Array Slot), 0 ≤ x5_41.toInt → x5_41.toInt ≤ 100 → (100 : Int) < x5_41.toInt + ((n : Nat) : Int) → va_P D vwCl (mdW Y cI 0 m_status m_isThere m_kinds m_newKinds m_print_41 m_low m_high m_lot m_taped m_latest m_length m_cursor m_token m_from m_till m_fault m_faultAt m_traced r_lane r_many r_item r_market r_of r_newMarket r_newStart r_newOf r_newCoin r_state_41 u_3 r_tape r_brings_41 r_seen r_seenOut r_trace ++ R) H → va_D A (mdW Y cI 0 m_status m_isThere m_kinds m_newKinds m_print_41 m_low m_high m_lot m_taped m_latest m_length m_cursor m_token m_from m_till m_fault m_faultAt m_traced r_lane r_many r_item r_market r_of r_newMarket r_newStart r_newOf r_newCoin r_state_41 u_3 r_tape r_brings_41 r_seen r_seenOut r_trace ++ R) → va_S A s.heap H locs → lv_has ls 6 [(5, .int x5_41), (4, .int x4_41), (3, .int x3_41), (2, .int m_print), (0, .ref (Y 0)), (1, .int k)] → (∀ (u : Int32 × Int32 × Int32 × Int32 × (Nat → Int32) × (Nat → Int32)) (H : Heap) (locs : List Loc) (ls : Array Slot), u = lX11_prints_41 k m_kinds m_low m_high m_lot r_market r_of u_3 n x5_41 x4_41 x3_41 m_print_41 r_state_41 r_brings_41 → va_P D vwCl (mdW Y cI 0 m_status m_isThere m_kinds m_newKinds u.2.2.2.1 m_low m_high m_lot m_taped m_latest m_length m_cursor m_token m_from m_till m_fault m_faultAt m_traced r_lane r_many r_item r_market r_of r_newMarket r_newStart r_newOf r_newCoin u.2.2.2.2.1 u_3 r_tape u.2.2.2.2.2 r_seen r_seenOut r_trace ++ R) H → va_D A (mdW Y cI 0 m_status m_isThere m_kinds m_newKinds u.2.2.2.1 m_low m_high m_lot m_taped m_latest m_length m_cursor m_token m_from m_till m_fault m_faultAt m_traced r_lane r_many r_item r_market r_of r_newMarket r_newStart r_newOf r_newCoin u.2.2.2.2.1 u_3 r_tape u.2.2.2.2.2 r_seen r_seenOut r_trace ++ R) → va_S A s.heap H locs → lv_has ls 6 [(4, .int u.2.1), (3, .int u.2.2.1), (2, .int m_print), (0, .ref (Y 0)), (1, .int k)] → W p l e (rmX 7) s m ([.ref (Y 0), .int k] : List Value).toArray below meth c H locs 0 0 Qm (F0 m 96 ls [])) → W p l e (rmX 7) s m ([.ref (Y 0), .int k] : List Value).toArray below meth c H locs 0 0 Qm (F0 m 41 ls []) := by
        intro n
        induction n with
        | zero =>
          intro x5_41 x4_41 x3_41 m_print_41 r_state_41 r_brings_41 H locs ls iv_41_0 iv_41_1 iv_41_2 hP hD hS hl kont_41
          exfalso; omega
        | succ n ih_41 =>
          intro x5_41 x4_41 x3_41 m_print_41 r_state_41 r_brings_41 H locs ls iv_41_0 iv_41_1 iv_41_2 hP hD hS hl kont_41
          refine lv_iload hx hb dX11_prints_41 (lv_at hl 0 rfl) ?_
          refine lv_bipush (v := 100) hx hb dX11_prints_43 (by decide) ?_
          refine lv_icmp_ge (tgt := 96) hx hb dX11_prints_45 (by decide) (fun c_4 => ?_) (fun c_4 => ?_)
          · have d_4 := i_le (show (100 : Int32).toInt = 100 from by decide) rfl c_4
            exact kont_41 (x5_41, x4_41, x3_41, m_print_41, r_state_41, r_brings_41) H locs ls (show lX11_prints_41 k m_kinds m_low m_high m_lot r_market r_of u_3 (n + 1) x5_41 x4_41 x3_41 m_print_41 r_state_41 r_brings_41 = (x5_41, x4_41, x3_41, m_print_41, r_state_41, r_brings_41) from ((if_pos c_4).trans rfl)).symm  hP hD hS (lv_sub hl [1, 2, 3, 4, 5] rfl)
          · have d_4 := i_len (show (100 : Int32).toInt = 100 from by decide) rfl c_4
            refine lv_aload_n hx hb dX11_prints_48 rfl (lv_at hl 4 rfl) ?_
            refine lv_iload hx hb dX11_prints_49 (lv_at hl 0 rfl) ?_
            refine va_put (D := D) (ci := 9) (v := .int x5_41) (ty := .int) (C := RX11) (T := TX11) (N := 35) hx hb hts iX11 tyX11 tyX11_ok nmX11 hown hK hP hD hS 0 rfl rfl 16 (by decide) k185 (fun _ h9 => h9) rfl (by decide +kernel) rfl rfl (Nat.le_of_ble_eq_true rfl) dX11_prints_51 (fun H locs hP hD hS => ?_)
            have hP : va_P D vwCl (mdW Y cI 0 m_status m_isThere m_kinds m_newKinds x5_41 m_low m_high m_lot m_taped m_latest m_length m_cursor m_token m_from m_till m_fault m_faultAt m_traced r_lane r_many r_item r_market r_of r_newMarket r_newStart r_newOf r_newCoin r_state_41 u_3 r_tape r_brings_41 r_seen r_seenOut r_trace ++ R) H := hP
            have hD : va_D A (mdW Y cI 0 m_status m_isThere m_kinds m_newKinds x5_41 m_low m_high m_lot m_taped m_latest m_length m_cursor m_token m_from m_till m_fault m_faultAt m_traced r_lane r_many r_item r_market r_of r_newMarket r_newStart r_newOf r_newCoin r_state_41 u_3 r_tape r_brings_41 r_seen r_seenOut r_trace ++ R) := hD
            refine lv_aload_n hx hb dX11_prints_54 rfl (lv_at hl 4 rfl) ?_
            refine mx_callV (As := []) (rest := []) ⟨hx, hb, hml, hown, hts⟩ (mtX11_year l D cI cB cK cS Y R 0 m_status m_isThere m_kinds m_newKinds x5_41 m_low m_high m_lot m_taped m_latest m_length m_cursor m_token m_from m_till m_fault m_faultAt m_traced r_lane r_many r_item r_market r_of r_newMarket r_newStart r_newOf r_newCoin r_state_41 u_3 r_tape r_brings_41 r_seen r_seenOut r_trace (by omega) (hth (by assumption))) (cwV 0 hts gX11_prints_X11_year rfl rfl rfl (by decide +kernel) ⟨Nat.le_of_ble_eq_true rfl, Nat.le_of_ble_eq_true rfl⟩) pF0_ok trivial hK hP hD hS hA 0 rfl rfl rfl rfl hl.1 rfl (Nat.le_of_ble_eq_true rfl) dX11_prints_55 ⟨Nat.le_refl _, Nat.le_refl _⟩ (fun u_5 H locs eu_5 hP hD hS => ?_)
            refine W.eq (g2 := F0 m 58 ls []) rfl ?_
            have hP : va_P D vwCl (mdW Y cI 0 m_status m_isThere m_kinds m_newKinds x5_41 m_low m_high m_lot m_taped m_latest m_length m_cursor m_token m_from m_till m_fault m_faultAt m_traced r_lane r_many r_item r_market r_of r_newMarket r_newStart r_newOf r_newCoin u_5.1 u_3 r_tape u_5.2 r_seen r_seenOut r_trace ++ R) H := hP
            have hD : va_D A (mdW Y cI 0 m_status m_isThere m_kinds m_newKinds x5_41 m_low m_high m_lot m_taped m_latest m_length m_cursor m_token m_from m_till m_fault m_faultAt m_traced r_lane r_many r_item r_market r_of r_newMarket r_newStart r_newOf r_newCoin u_5.1 u_3 r_tape u_5.2 r_seen r_seenOut r_trace ++ R) := hD
            refine lv_aload_n hx hb dX11_prints_58 rfl (lv_at hl 4 rfl) ?_
            refine va_get (D := D) (ci := 9) (v := .ref (Y 14)) (C := RX11) (T := TX11) (N := 35) hx hb hts iX11 hown hK hP 0 rfl rfl 14 (by decide) k37 (fun _ h9 => h9) rfl dX11_prints_59 ?_
            refine lv_iconst (v := 0) hx hb dX11_prints_62 (by decide) ?_
            have q_6 : vp_in (0 : Int32) 17 := vp_in_iff.mpr (by decide)
            refine va_iald hx hb hK hP 10 0 rfl rfl q_6 dX11_prints_63 ?_
            refine W.eq (g2 := F0 m 64 ls [.int (u_5.1 0)]) rfl ?_
            refine lv_iload hx hb dX11_prints_64 (lv_at hl 0 rfl) ?_
            have J_9 : ∀ (y_9 : Int32 × Int32) (H : Heap) (locs : List Loc) (ls : Array Slot), y_9 = (if (u_5.1 0) = x5_41 then (lt (if x3_41 = k then (x5_41) else (x4_41)) (fun y_11 : Int32 => lt (x3_41 + 1) (fun x_13 : Int32 => (x_13, y_11)))) else ((x3_41, x4_41))) → va_P D vwCl (mdW Y cI 0 m_status m_isThere m_kinds m_newKinds x5_41 m_low m_high m_lot m_taped m_latest m_length m_cursor m_token m_from m_till m_fault m_faultAt m_traced r_lane r_many r_item r_market r_of r_newMarket r_newStart r_newOf r_newCoin u_5.1 u_3 r_tape u_5.2 r_seen r_seenOut r_trace ++ R) H → va_D A (mdW Y cI 0 m_status m_isThere m_kinds m_newKinds x5_41 m_low m_high m_lot m_taped m_latest m_length m_cursor m_token m_from m_till m_fault m_faultAt m_traced r_lane r_many r_item r_market r_of r_newMarket r_newStart r_newOf r_newCoin u_5.1 u_3 r_tape u_5.2 r_seen r_seenOut r_trace ++ R) → va_S A s.heap H locs → lv_has ls 6 [(3, .int y_9.1), (4, .int y_9.2), (5, .int x5_41), (2, .int m_print), (0, .ref (Y 0)), (1, .int k)] → W p l e (rmX 7) s m ([.ref (Y 0), .int k] : List Value).toArray below meth c H locs 0 0 Qm (F0 m 86 ls []) := by
              intro y_9 H locs ls ey_9 hP hD hS hl
              refine lv_aload_n hx hb dX11_prints_86 rfl (lv_at hl 4 rfl) ?_
              refine mx_callV (As := []) (rest := []) ⟨hx, hb, hml, hown, hts⟩ (mtX11_comeBack l D cI cB cK cS Y R 0 m_status m_isThere m_kinds m_newKinds x5_41 m_low m_high m_lot m_taped m_latest m_length m_cursor m_token m_from m_till m_fault m_faultAt m_traced r_lane r_many r_item r_market r_of r_newMarket r_newStart r_newOf r_newCoin u_5.1 u_3 r_tape u_5.2 r_seen r_seenOut r_trace) (cwV 0 hts gX11_prints_X11_comeBack rfl rfl rfl (by decide +kernel) ⟨Nat.le_of_ble_eq_true rfl, Nat.le_of_ble_eq_true rfl⟩) pF0_ok trivial hK hP hD hS hA 0 rfl rfl rfl rfl hl.1 rfl (Nat.le_of_ble_eq_true rfl) dX11_prints_87 ⟨Nat.le_refl _, Nat.le_refl _⟩ (fun u_14 H locs eu_14 hP hD hS => ?_)
              refine W.eq (g2 := F0 m 90 ls []) rfl ?_
              have hP : va_P D vwCl (mdW Y cI 0 m_status m_isThere m_kinds m_newKinds x5_41 m_low m_high m_lot m_taped m_latest m_length m_cursor m_token m_from m_till m_fault m_faultAt m_traced r_lane r_many r_item r_market r_of r_newMarket r_newStart r_newOf r_newCoin u_14 u_3 r_tape u_5.2 r_seen r_seenOut r_trace ++ R) H := hP
              have hD : va_D A (mdW Y cI 0 m_status m_isThere m_kinds m_newKinds x5_41 m_low m_high m_lot m_taped m_latest m_length m_cursor m_token m_from m_till m_fault m_faultAt m_traced r_lane r_many r_item r_market r_of r_newMarket r_newStart r_newOf r_newCoin u_14 u_3 r_tape u_5.2 r_seen r_seenOut r_trace ++ R) := hD
              obtain ⟨x_15, ex_15⟩ : ∃ z : Int32, z = x5_41 + 1 := ⟨_, rfl⟩
              refine lv_iinc (v := x_15) (lv' := [(5, .int x_15), (3, .int y_9.1), (4, .int y_9.2), (2, .int m_print), (0, .ref (Y 0)), (1, .int k)]) hx hb dX11_prints_90 hl (k := 2) rfl (by rw [ex_15]; rfl) (by decide) rfl (fun ls hl => ?_)
              refine lv_goto (tgt := 41) hx hb dX11_prints_93 (by decide) ?_
              have tx_15 : x_15.toInt = x5_41.toInt + 1 := i_inc ex_15 (by decide) (by omega) (by omega)
              refine ih_41 x_15 y_9.2 y_9.1 x5_41 u_14 u_5.2 H locs ls (by omega) (by omega) (by omega) hP hD hS (lv_sub hl [0, 2, 1, 3, 4, 5] rfl) (fun u H locs ls eu  hP hD hS hl => ?_)
              exact kont_41 u H locs ls (eu.trans (show lX11_prints_41 k m_kinds m_low m_high m_lot r_market r_of u_3 (n + 1) x5_41 x4_41 x3_41 m_print_41 r_state_41 r_brings_41 = lX11_prints_41 k m_kinds m_low m_high m_lot r_market r_of u_3 n x_15 y_9.2 y_9.1 x5_41 u_14 u_5.2 from ((if_neg c_4).trans (lt_eq eu_5 (lt_eq ey_9 (lt_eq eu_14 (lt_eq ex_15 rfl)))))).symm)  hP hD hS hl
            refine lv_icmp_ne (tgt := 86) hx hb dX11_prints_66 (by decide) (fun c_10 => ?_) (fun c_10 => ?_)
            · have d_10 := i_eqn rfl rfl c_10
              exact J_9 (x3_41, x4_41) H locs ls (Eq.symm ((if_neg c_10).trans rfl)) hP hD hS (lv_sub hl [2, 1, 0, 3, 4, 5] rfl)
            · have d_10 := i_eq rfl rfl c_10
              refine lv_iload_n hx hb dX11_prints_69 rfl (lv_at hl 2 rfl) ?_
              refine lv_iload_n hx hb dX11_prints_70 rfl (lv_at hl 5 rfl) ?_
              have J_11 : ∀ (y_11 : Int32) (H : Heap) (locs : List Loc) (ls : Array Slot), y_11 = (if x3_41 = k then (x5_41) else (x4_41)) → va_P D vwCl (mdW Y cI 0 m_status m_isThere m_kinds m_newKinds x5_41 m_low m_high m_lot m_taped m_latest m_length m_cursor m_token m_from m_till m_fault m_faultAt m_traced r_lane r_many r_item r_market r_of r_newMarket r_newStart r_newOf r_newCoin u_5.1 u_3 r_tape u_5.2 r_seen r_seenOut r_trace ++ R) H → va_D A (mdW Y cI 0 m_status m_isThere m_kinds m_newKinds x5_41 m_low m_high m_lot m_taped m_latest m_length m_cursor m_token m_from m_till m_fault m_faultAt m_traced r_lane r_many r_item r_market r_of r_newMarket r_newStart r_newOf r_newCoin u_5.1 u_3 r_tape u_5.2 r_seen r_seenOut r_trace ++ R) → va_S A s.heap H locs → lv_has ls 6 [(5, .int x5_41), (3, .int x3_41), (2, .int m_print), (0, .ref (Y 0)), (1, .int k)] → W p l e (rmX 7) s m ([.ref (Y 0), .int k] : List Value).toArray below meth c H locs 0 0 Qm (F0 m 81 ls [.int y_11]) := by
                intro y_11 H locs ls ey_11 hP hD hS hl
                refine lv_istore (lv' := [(4, .int y_11), (5, .int x5_41), (3, .int x3_41), (2, .int m_print), (0, .ref (Y 0)), (1, .int k)]) hx hb dX11_prints_81 hl (by decide) rfl (fun ls hl => ?_)
                obtain ⟨x_13, ex_13⟩ : ∃ z : Int32, z = x3_41 + 1 := ⟨_, rfl⟩
                refine lv_iinc (v := x_13) (lv' := [(3, .int x_13), (4, .int y_11), (5, .int x5_41), (2, .int m_print), (0, .ref (Y 0)), (1, .int k)]) hx hb dX11_prints_83 hl (k := 2) rfl (by rw [ex_13]; rfl) (by decide) rfl (fun ls hl => ?_)
                exact J_9 (x_13, y_11) H locs ls (Eq.symm ((if_pos c_10).trans (lt_eq ey_11 (lt_eq ex_13 rfl)))) hP hD hS (lv_sub hl [0, 1, 2, 3, 4, 5] rfl)
              refine lv_icmp_ne (tgt := 79) hx hb dX11_prints_71 (by decide) (fun c_12 => ?_) (fun c_12 => ?_)
              · have d_12 := i_eqn rfl rfl c_12
                refine lv_iload hx hb dX11_prints_79 (lv_at hl 1 rfl) ?_
                exact J_11 x4_41 H locs ls (Eq.symm ((if_neg c_12).trans rfl)) hP hD hS (lv_sub hl [0, 2, 3, 4, 5] rfl)
              · have d_12 := i_eq rfl rfl c_12
                refine lv_iload hx hb dX11_prints_74 (lv_at hl 0 rfl) ?_
                refine lv_goto (tgt := 81) hx hb dX11_prints_76 (by decide) ?_
                exact J_11 x5_41 H locs ls (Eq.symm ((if_pos c_12).trans rfl)) hP hD hS (lv_sub hl [0, 2, 3, 4, 5] rfl)
      refine L_41 101 0 (-1000000) 0 m_print r_state r_brings H locs ls (by decide) (by decide) (by decide) hP hD hS (lv_sub hl [0, 1, 2, 3, 4, 5] rfl) (fun u_16 H locs ls eu_16  hP hD hS hl => ?_)
      have hP : va_P D vwCl (mdW Y cI 0 m_status m_isThere m_kinds m_newKinds u_16.2.2.2.1 m_low m_high m_lot m_taped m_latest m_length m_cursor m_token m_from m_till m_fault m_faultAt m_traced r_lane r_many r_item r_market r_of r_newMarket r_newStart r_newOf r_newCoin u_16.2.2.2.2.1 u_3 r_tape u_16.2.2.2.2.2 r_seen r_seenOut r_trace ++ R) H := hP
      have hD : va_D A (mdW Y cI 0 m_status m_isThere m_kinds m_newKinds u_16.2.2.2.1 m_low m_high m_lot m_taped m_latest m_length m_cursor m_token m_from m_till m_fault m_faultAt m_traced r_lane r_many r_item r_market r_of r_newMarket r_newStart r_newOf r_newCoin u_16.2.2.2.2.1 u_3 r_tape u_16.2.2.2.2.2 r_seen r_seenOut r_trace ++ R) := hD
      refine lv_aload_n hx hb dX11_prints_96 rfl (lv_at hl 3 rfl) ?_
      refine lv_iload_n hx hb dX11_prints_97 rfl (lv_at hl 2 rfl) ?_
      refine va_put (D := D) (ci := 9) (v := .int m_print) (ty := .int) (C := RX11) (T := TX11) (N := 35) hx hb hts iX11 tyX11 tyX11_ok nmX11 hown hK hP hD hS 0 rfl rfl 16 (by decide) k185 (fun _ h9 => h9) rfl (by decide +kernel) rfl rfl (Nat.le_of_ble_eq_true rfl) dX11_prints_98 (fun H locs hP hD hS => ?_)
      have hP : va_P D vwCl (mdW Y cI 0 m_status m_isThere m_kinds m_newKinds m_print m_low m_high m_lot m_taped m_latest m_length m_cursor m_token m_from m_till m_fault m_faultAt m_traced r_lane r_many r_item r_market r_of r_newMarket r_newStart r_newOf r_newCoin u_16.2.2.2.2.1 u_3 r_tape u_16.2.2.2.2.2 r_seen r_seenOut r_trace ++ R) H := hP
      have hD : va_D A (mdW Y cI 0 m_status m_isThere m_kinds m_newKinds m_print m_low m_high m_lot m_taped m_latest m_length m_cursor m_token m_from m_till m_fault m_faultAt m_traced r_lane r_many r_item r_market r_of r_newMarket r_newStart r_newOf r_newCoin u_16.2.2.2.2.1 u_3 r_tape u_16.2.2.2.2.2 r_seen r_seenOut r_trace ++ R) := hD
      refine lv_iload_n hx hb dX11_prints_101 rfl (lv_at hl 4 rfl) ?_
      refine lv_iconst (v := (-1)) hx hb dX11_prints_102 (by decide) ?_
      refine lv_icmp_ne (tgt := 110) hx hb dX11_prints_103 (by decide) (fun c_17 => ?_) (fun c_17 => ?_)
      · have d_17 := i_eqn rfl (show ((-1) : Int32).toInt = (-1) from by decide) c_17
        refine lv_iload hx hb dX11_prints_110 (lv_at hl 0 rfl) ?_
        rw [hQm]
        exact mx_iret (u0 := sX11_prints k m_isThere m_kinds m_print m_low m_high m_lot r_market r_of r_state r_kept r_brings) (rv := (fun u => some (.int u.1))) (w1 := (fun u => mdW Y cI u.2.1 m_status m_isThere m_kinds m_newKinds u.2.2.1 m_low m_high m_lot m_taped m_latest m_length m_cursor m_token m_from m_till m_fault m_faultAt m_traced r_lane r_many r_item r_market r_of r_newMarket r_newStart r_newOf r_newCoin u.2.2.2.1 u.2.2.2.2.1 r_tape u.2.2.2.2.2 r_seen r_seenOut r_trace ++ R)) (u := (u_16.2.1, 0, m_print, u_16.2.2.2.2.1, u_3, u_16.2.2.2.2.2)) hx hb hr hlocks hK hS ((if_pos c_1).trans ((if_neg c_2).trans (lt_eq eu_3 (lt_eq eu_16 ((if_neg c_17).trans rfl))))) hP hD rfl dX11_prints_112
      · have d_17 := i_eq rfl (show ((-1) : Int32).toInt = (-1) from by decide) c_17
        refine lv_iload_n hx hb dX11_prints_106 rfl (lv_at hl 1 rfl) ?_
        refine lv_goto (tgt := 112) hx hb dX11_prints_107 (by decide) ?_
        rw [hQm]
        exact mx_iret (u0 := sX11_prints k m_isThere m_kinds m_print m_low m_high m_lot r_market r_of r_state r_kept r_brings) (rv := (fun u => some (.int u.1))) (w1 := (fun u => mdW Y cI u.2.1 m_status m_isThere m_kinds m_newKinds u.2.2.1 m_low m_high m_lot m_taped m_latest m_length m_cursor m_token m_from m_till m_fault m_faultAt m_traced r_lane r_many r_item r_market r_of r_newMarket r_newStart r_newOf r_newCoin u.2.2.2.1 u.2.2.2.2.1 r_tape u.2.2.2.2.2 r_seen r_seenOut r_trace ++ R)) (u := (u_16.2.2.1, 0, m_print, u_16.2.2.2.2.1, u_3, u_16.2.2.2.2.2)) hx hb hr hlocks hK hS ((if_pos c_1).trans ((if_neg c_2).trans (lt_eq eu_3 (lt_eq eu_16 ((if_pos c_17).trans rfl))))) hP hD rfl dX11_prints_112
    · have d_2 := i_eq rfl (show (0 : Int32).toInt = 0 from by decide) c_2
      refine lv_ldc (v := (-1000002)) hx hb hown k231 dX11_prints_20 ?_
      rw [hQm]
      exact mx_iret (u0 := sX11_prints k m_isThere m_kinds m_print m_low m_high m_lot r_market r_of r_state r_kept r_brings) (rv := (fun u => some (.int u.1))) (w1 := (fun u => mdW Y cI u.2.1 m_status m_isThere m_kinds m_newKinds u.2.2.1 m_low m_high m_lot m_taped m_latest m_length m_cursor m_token m_from m_till m_fault m_faultAt m_traced r_lane r_many r_item r_market r_of r_newMarket r_newStart r_newOf r_newCoin u.2.2.2.1 u.2.2.2.2.1 r_tape u.2.2.2.2.2 r_seen r_seenOut r_trace ++ R)) (u := ((-1000002), 0, m_print, r_state, r_kept, r_brings)) hx hb hr hlocks hK hS ((if_pos c_1).trans ((if_pos c_2).trans rfl)) hP hD rfl dX11_prints_22
  · have d_1 := i_len (show ((-1) : Int32).toInt = (-1) from by decide) rfl c_1
    refine lv_ldc (v := (-1000001)) hx hb hown k78 dX11_prints_10 ?_
    rw [hQm]
    exact mx_iret (u0 := sX11_prints k m_isThere m_kinds m_print m_low m_high m_lot r_market r_of r_state r_kept r_brings) (rv := (fun u => some (.int u.1))) (w1 := (fun u => mdW Y cI u.2.1 m_status m_isThere m_kinds m_newKinds u.2.2.1 m_low m_high m_lot m_taped m_latest m_length m_cursor m_token m_from m_till m_fault m_faultAt m_traced r_lane r_many r_item r_market r_of r_newMarket r_newStart r_newOf r_newCoin u.2.2.2.1 u.2.2.2.2.1 r_tape u.2.2.2.2.2 r_seen r_seenOut r_trace ++ R)) (u := ((-1000001), 0, m_print, r_state, r_kept, r_brings)) hx hb hr hlocks hK hS ((if_neg c_1).trans rfl) hP hD rfl dX11_prints_12

def lX11_diesAt_19 (m_kinds : Int32) (r_of : Nat → Int32) (r_state : Nat → Int32) : Nat → Int32 → Int64 → Int64 → Int64 → Int64 → Int32 × Int64 × Int64 × Int64 × Int64
  | 0, x10_19, x8_19, x6_19, x4_19, x2_19 => (x10_19, x8_19, x6_19, x4_19, x2_19)
  | n + 1, x10_19, x8_19, x6_19, x4_19, x2_19 => if m_kinds ≤ x10_19 then ((x10_19, x8_19, x6_19, x4_19, x2_19)) else (lt (sX11_isOut x10_19 r_state) (fun u_3 : Int32 => lt (if u_3 = 0 then (lt (sX11_told x10_19 2 r_of) (fun u_6 : Int32 => lt (sX11_told x10_19 4 r_of) (fun u_7 : Int32 => (u_6.toInt64 * u_7.toInt64)))) else (0)) (fun y_4 : Int64 => lt (sX11_told x10_19 1 r_of) (fun u_8 : Int32 => lt (sX11_told x10_19 0 r_of) (fun u_9 : Int32 => if u_9 = 1 then (lt (x2_19 + (30 * y_4)) (fun x_11 : Int64 => lt (x10_19 + 1) (fun x_12 : Int32 => lX11_diesAt_19 m_kinds r_of r_state n x_12 x8_19 x6_19 x4_19 x_11))) else (if u_9 = 2 then (lt (x2_19 + ((30 / u_8.toInt64) * y_4)) (fun x_14 : Int64 => lt (if u_8 ≤ 1 then (0) else (((30 / u_8.toInt64) * y_4))) (fun y_15 : Int64 => lt (x4_19 + y_15) (fun x_17 : Int64 => lt (if u_8 ≤ 2 then (0) else (((30 / u_8.toInt64) * y_4))) (fun y_18 : Int64 => lt (x6_19 + y_18) (fun x_20 : Int64 => lt (x10_19 + 1) (fun x_21 : Int32 => lX11_diesAt_19 m_kinds r_of r_state n x_21 x8_19 x_20 x_17 x_14))))))) else (if u_9 = 3 then (lt (x2_19 + ((30 + (3 * u_8.toInt64)) * y_4)) (fun x_23 : Int64 => lt (x4_19 - ((3 * u_8.toInt64) * y_4)) (fun x_24 : Int64 => lt (x10_19 + 1) (fun x_25 : Int32 => lX11_diesAt_19 m_kinds r_of r_state n x_25 x8_19 x6_19 x_24 x_23)))) else (if u_9 = 4 then (lt (x2_19 - (10 * y_4)) (fun x_27 : Int64 => lt (x4_19 + (20 * y_4)) (fun x_28 : Int64 => lt (x6_19 + (20 * y_4)) (fun x_29 : Int64 => lt (x10_19 + 1) (fun x_30 : Int32 => lX11_diesAt_19 m_kinds r_of r_state n x_30 x8_19 x_29 x_28 x_27))))) else (if u_9 = 5 then (lt (x10_19 + 1) (fun x_32 : Int32 => lX11_diesAt_19 m_kinds r_of r_state n x_32 x8_19 x6_19 x4_19 x2_19)) else (if u_9 = 6 then (lt (x8_19 + (30 * y_4)) (fun x_34 : Int64 => lt (x10_19 + 1) (fun x_35 : Int32 => lX11_diesAt_19 m_kinds r_of r_state n x_35 x_34 x6_19 x4_19 x2_19))) else (lt (x10_19 + 1) (fun x_36 : Int32 => lX11_diesAt_19 m_kinds r_of r_state n x_36 x8_19 x6_19 x4_19 x2_19))))))))))))

def sX11_diesAt (g : Int32) (m_kinds : Int32) (r_of : Nat → Int32) (r_state : Nat → Int32) : Int32 := lt (300 * g.toInt64) (fun x_1 : Int64 => lt (lX11_diesAt_19 m_kinds r_of r_state 6 0 x_1 0 0 0) (fun u_37 : Int32 × Int64 × Int64 × Int64 × Int64 => lt (sX11_size u_37.2.2.1) (fun u_38 : Int64 => lt (sX11_side u_38 u_37.2.1) (fun u_39 : Int32 => lt (sX11_size (u_37.2.2.2.2 + u_37.2.2.1)) (fun u_40 : Int64 => lt (sX11_side u_40 (u_37.2.1 + u_37.2.2.2.1)) (fun u_41 : Int32 => lt (sX11_size ((u_37.2.2.2.1 * u_37.2.1) - (u_37.2.2.2.2 * u_37.2.2.1))) (fun u_42 : Int64 => lt (sX11_side u_42 ((u_37.2.1 * u_37.2.1) - (u_37.2.2.1 * u_37.2.2.1))) (fun u_43 : Int32 => if 0 < u_39 then ((2)) else (if 0 < u_41 then ((2)) else (if u_43 ≤ 0 then (if 0 ≤ u_39 then ((1)) else (if 0 ≤ u_41 then ((1)) else (if 0 ≤ u_43 then ((1)) else ((0))))) else ((2))))))))))))
set_option maxHeartbeats 4000000 in
set_option maxRecDepth 100000 in
theorem mtX11_diesAt (l : Launch) (D : va_G) (cI cB cK cS : ClassId) (Y : Nat → Nat) (R : va_W) (m_thrown : Int32) (m_status : Int32) (m_isThere : Int32) (m_kinds : Int32) (m_newKinds : Int32) (m_print : Int32) (m_low : Int32) (m_high : Int32) (m_lot : Int32) (m_taped : Int32) (m_latest : Int32) (m_length : Int32) (m_cursor : Int32) (m_token : Int32) (m_from : Int32) (m_till : Int32) (m_fault : Int32) (m_faultAt : Int32) (m_traced : Int32) (r_lane : Nat → Int32) (r_many : Nat → Int32) (r_item : Nat → Int32) (r_market : Nat → Int32) (r_of : Nat → Int32) (r_newMarket : Nat → Int32) (r_newStart : Nat → Int32) (r_newOf : Nat → Int32) (r_newCoin : Nat → Int32) (r_state : Nat → Int32) (r_kept : Nat → Int32) (r_tape : Nat → Int32) (r_brings : Nat → Int32) (r_seen : Nat → Int32) (r_seenOut : Nat → Int32) (r_trace : Nat → Int32) (g : Int32) (hkd : m_kinds.toInt ≤ 5) (hby : ∀ k : Int32, 0 ≤ k.toInt → k.toInt < m_kinds.toInt → sX11_told k 0 r_of = 2 → ¬ sX11_told k 1 r_of = 0) : MX l yX11_diesAt wsX11_diesAt (rmX 2) D (tyX cI cB cK cS) pF0 (mdW Y cI m_thrown m_status m_isThere m_kinds m_newKinds m_print m_low m_high m_lot m_taped m_latest m_length m_cursor m_token m_from m_till m_fault m_faultAt m_traced r_lane r_many r_item r_market r_of r_newMarket r_newStart r_newOf r_newCoin r_state r_kept r_tape r_brings r_seen r_seenOut r_trace ++ R) [.ref (Y 0), .int g] (sX11_diesAt g m_kinds r_of r_state) (fun u => some (.int u)) (fun _ => mdW Y cI m_thrown m_status m_isThere m_kinds m_newKinds m_print m_low m_high m_lot m_taped m_latest m_length m_cursor m_token m_from m_till m_fault m_faultAt m_traced r_lane r_many r_item r_market r_of r_newMarket r_newStart r_newOf r_newCoin r_state r_kept r_tape r_brings r_seen r_seenOut r_trace ++ R) := by
  refine mx_intro (cc := cX11_diesAt) (maxL := 14) (ret := (some .int)) (by decide) rfl (Nat.le_of_ble_eq_true rfl) ?_
  intro p e s m below meth c A ls H locs Qm hQm hx hb hr hml hts hown hlocks hA hS hP hK hD hF hl
  have hown : s.vm.findClass RX11 = some m.cls := hown
  have hl : lv_has ls 14 [(0, .ref (Y 0)), (1, .int g)] := hl
  have k239 := hts (.constantLong RX11 239 (300)) (by decide +kernel)
  have k180 := hts (.fieldLink RX11 180 "PigRoundsModel" "kinds" "I") (by decide +kernel)
  have k241 := hts (.constantLong RX11 241 (30)) (by decide +kernel)
  have k243 := hts (.constantLong RX11 243 (3)) (by decide +kernel)
  have k245 := hts (.constantLong RX11 245 (10)) (by decide +kernel)
  have k247 := hts (.constantLong RX11 247 (20)) (by decide +kernel)
  have iX11 : ∀ w ∈ u_ws RX11 TX11 35, w ∈ wsX11_diesAt := by decide +kernel
  refine lv_lconst (v := 0) hx hb dX11_diesAt_0 (by decide) ?_
  refine lv_lstore_n (lv' := [(2, .long 0), (0, .ref (Y 0)), (1, .int g)]) hx hb dX11_diesAt_1 rfl hl (by decide) rfl (fun ls hl => ?_)
  refine lv_lconst (v := 0) hx hb dX11_diesAt_2 (by decide) ?_
  refine lv_lstore (lv' := [(4, .long 0), (2, .long 0), (0, .ref (Y 0)), (1, .int g)]) hx hb dX11_diesAt_3 hl (by decide) rfl (fun ls hl => ?_)
  refine lv_lconst (v := 0) hx hb dX11_diesAt_5 (by decide) ?_
  refine lv_lstore (lv' := [(6, .long 0), (4, .long 0), (2, .long 0), (0, .ref (Y 0)), (1, .int g)]) hx hb dX11_diesAt_6 hl (by decide) rfl (fun ls hl => ?_)
  refine lv_ldc2 (v := 300) hx hb hown k239 dX11_diesAt_8 ?_
  refine lv_iload_n hx hb dX11_diesAt_11 rfl (lv_at hl 4 rfl) ?_
  refine lv_i2l (v := g.toInt64) hx hb dX11_diesAt_12 rfl ?_
  refine lv_lmul hx hb dX11_diesAt_13 ?_
  refine lv_topl (fun x_1 ex_1 => ?_)
  refine lv_lstore (lv' := [(8, .long x_1), (6, .long 0), (4, .long 0), (2, .long 0), (0, .ref (Y 0)), (1, .int g)]) hx hb dX11_diesAt_14 hl (by decide) rfl (fun ls hl => ?_)
  refine lv_iconst (v := 0) hx hb dX11_diesAt_16 (by decide) ?_
  refine lv_istore (lv' := [(10, .int 0), (8, .long x_1), (6, .long 0), (4, .long 0), (2, .long 0), (0, .ref (Y 0)), (1, .int g)]) hx hb dX11_diesAt_17 hl (by decide) rfl (fun ls hl => ?_)
  have L_19 : ∀ (n : Nat) (x10_19 : Int32) (x8_19 : Int64) (x6_19 : Int64) (x4_19 : Int64) (x2_19 : Int64) (H : Heap) (locs : List Loc) (ls : Array Slot), 0 ≤ x10_19.toInt → x10_19.toInt ≤ 5 → (5 : Int) < x10_19.toInt + ((n : Nat) : Int) → va_P D vwCl (mdW Y cI m_thrown m_status m_isThere m_kinds m_newKinds m_print m_low m_high m_lot m_taped m_latest m_length m_cursor m_token m_from m_till m_fault m_faultAt m_traced r_lane r_many r_item r_market r_of r_newMarket r_newStart r_newOf r_newCoin r_state r_kept r_tape r_brings r_seen r_seenOut r_trace ++ R) H → va_D A (mdW Y cI m_thrown m_status m_isThere m_kinds m_newKinds m_print m_low m_high m_lot m_taped m_latest m_length m_cursor m_token m_from m_till m_fault m_faultAt m_traced r_lane r_many r_item r_market r_of r_newMarket r_newStart r_newOf r_newCoin r_state r_kept r_tape r_brings r_seen r_seenOut r_trace ++ R) → va_S A s.heap H locs → lv_has ls 14 [(10, .int x10_19), (8, .long x8_19), (6, .long x6_19), (4, .long x4_19), (2, .long x2_19), (0, .ref (Y 0))] → (∀ (u : Int32 × Int64 × Int64 × Int64 × Int64) (H : Heap) (locs : List Loc) (ls : Array Slot), u = lX11_diesAt_19 m_kinds r_of r_state n x10_19 x8_19 x6_19 x4_19 x2_19 → va_P D vwCl (mdW Y cI m_thrown m_status m_isThere m_kinds m_newKinds m_print m_low m_high m_lot m_taped m_latest m_length m_cursor m_token m_from m_till m_fault m_faultAt m_traced r_lane r_many r_item r_market r_of r_newMarket r_newStart r_newOf r_newCoin r_state r_kept r_tape r_brings r_seen r_seenOut r_trace ++ R) H → va_D A (mdW Y cI m_thrown m_status m_isThere m_kinds m_newKinds m_print m_low m_high m_lot m_taped m_latest m_length m_cursor m_token m_from m_till m_fault m_faultAt m_traced r_lane r_many r_item r_market r_of r_newMarket r_newStart r_newOf r_newCoin r_state r_kept r_tape r_brings r_seen r_seenOut r_trace ++ R) → va_S A s.heap H locs → lv_has ls 14 [(8, .long u.2.1), (6, .long u.2.2.1), (4, .long u.2.2.2.1), (2, .long u.2.2.2.2)] → W p l e (rmX 2) s m ([.ref (Y 0), .int g] : List Value).toArray below meth c H locs 0 0 Qm (F0 m 283 ls [])) → W p l e (rmX 2) s m ([.ref (Y 0), .int g] : List Value).toArray below meth c H locs 0 0 Qm (F0 m 19 ls []) := by
    intro n
    induction n with
    | zero =>
      intro x10_19 x8_19 x6_19 x4_19 x2_19 H locs ls iv_19_0 iv_19_1 iv_19_2 hP hD hS hl kont_19
      exfalso; omega
    | succ n ih_19 =>
      intro x10_19 x8_19 x6_19 x4_19 x2_19 H locs ls iv_19_0 iv_19_1 iv_19_2 hP hD hS hl kont_19
      refine lv_iload hx hb dX11_diesAt_19 (lv_at hl 0 rfl) ?_
      refine lv_aload_n hx hb dX11_diesAt_21 rfl (lv_at hl 5 rfl) ?_
      refine va_get (D := D) (ci := 9) (v := .int m_kinds) (C := RX11) (T := TX11) (N := 35) hx hb hts iX11 hown hK hP 0 rfl rfl 6 (by decide) k180 (fun _ h9 => h9) rfl dX11_diesAt_22 ?_
      refine lv_icmp_ge (tgt := 283) hx hb dX11_diesAt_25 (by decide) (fun c_2 => ?_) (fun c_2 => ?_)
      · have d_2 := i_le rfl rfl c_2
        exact kont_19 (x10_19, x8_19, x6_19, x4_19, x2_19) H locs ls (show lX11_diesAt_19 m_kinds r_of r_state (n + 1) x10_19 x8_19 x6_19 x4_19 x2_19 = (x10_19, x8_19, x6_19, x4_19, x2_19) from ((if_pos c_2).trans rfl)).symm  hP hD hS (lv_sub hl [1, 2, 3, 4] rfl)
      · have d_2 := i_len rfl rfl c_2
        refine lv_aload_n hx hb dX11_diesAt_28 rfl (lv_at hl 5 rfl) ?_
        refine lv_iload hx hb dX11_diesAt_29 (lv_at hl 0 rfl) ?_
        refine mx_callV (As := [.int x10_19]) (rest := []) ⟨hx, hb, hml, hown, hts⟩ (mtX11_isOut l D cI cB cK cS Y R m_thrown m_status m_isThere m_kinds m_newKinds m_print m_low m_high m_lot m_taped m_latest m_length m_cursor m_token m_from m_till m_fault m_faultAt m_traced r_lane r_many r_item r_market r_of r_newMarket r_newStart r_newOf r_newCoin r_state r_kept r_tape r_brings r_seen r_seenOut r_trace x10_19 (by omega) (by omega)) (cwV 1 hts gX11_diesAt_X11_isOut rfl rfl rfl (by decide +kernel) ⟨Nat.le_of_ble_eq_true rfl, Nat.le_of_ble_eq_true rfl⟩) pF0_ok trivial hK hP hD hS hA 0 rfl rfl rfl rfl hl.1 rfl (Nat.le_of_ble_eq_true rfl) dX11_diesAt_31 ⟨Nat.le_refl _, Nat.le_refl _⟩ (fun u_3 H locs eu_3 hP hD hS => ?_)
        refine W.eq (g2 := F0 m 34 ls [.int u_3]) rfl ?_
        have hP : va_P D vwCl (mdW Y cI m_thrown m_status m_isThere m_kinds m_newKinds m_print m_low m_high m_lot m_taped m_latest m_length m_cursor m_token m_from m_till m_fault m_faultAt m_traced r_lane r_many r_item r_market r_of r_newMarket r_newStart r_newOf r_newCoin r_state r_kept r_tape r_brings r_seen r_seenOut r_trace ++ R) H := hP
        have hD : va_D A (mdW Y cI m_thrown m_status m_isThere m_kinds m_newKinds m_print m_low m_high m_lot m_taped m_latest m_length m_cursor m_token m_from m_till m_fault m_faultAt m_traced r_lane r_many r_item r_market r_of r_newMarket r_newStart r_newOf r_newCoin r_state r_kept r_tape r_brings r_seen r_seenOut r_trace ++ R) := hD
        have J_4 : ∀ (y_4 : Int64) (H : Heap) (locs : List Loc) (ls : Array Slot), y_4 = (if u_3 = 0 then (lt (sX11_told x10_19 2 r_of) (fun u_6 : Int32 => lt (sX11_told x10_19 4 r_of) (fun u_7 : Int32 => (u_6.toInt64 * u_7.toInt64)))) else (0)) → va_P D vwCl (mdW Y cI m_thrown m_status m_isThere m_kinds m_newKinds m_print m_low m_high m_lot m_taped m_latest m_length m_cursor m_token m_from m_till m_fault m_faultAt m_traced r_lane r_many r_item r_market r_of r_newMarket r_newStart r_newOf r_newCoin r_state r_kept r_tape r_brings r_seen r_seenOut r_trace ++ R) H → va_D A (mdW Y cI m_thrown m_status m_isThere m_kinds m_newKinds m_print m_low m_high m_lot m_taped m_latest m_length m_cursor m_token m_from m_till m_fault m_faultAt m_traced r_lane r_many r_item r_market r_of r_newMarket r_newStart r_newOf r_newCoin r_state r_kept r_tape r_brings r_seen r_seenOut r_trace ++ R) → va_S A s.heap H locs → lv_has ls 14 [(10, .int x10_19), (8, .long x8_19), (6, .long x6_19), (4, .long x4_19), (2, .long x2_19), (0, .ref (Y 0))] → W p l e (rmX 2) s m ([.ref (Y 0), .int g] : List Value).toArray below meth c H locs 0 0 Qm (F0 m 58 ls [.long y_4]) := by
          intro y_4 H locs ls ey_4 hP hD hS hl
          refine lv_lstore (lv' := [(11, .long y_4), (10, .int x10_19), (8, .long x8_19), (6, .long x6_19), (4, .long x4_19), (2, .long x2_19), (0, .ref (Y 0))]) hx hb dX11_diesAt_58 hl (by decide) rfl (fun ls hl => ?_)
          refine lv_aload_n hx hb dX11_diesAt_60 rfl (lv_at hl 6 rfl) ?_
          refine lv_iload hx hb dX11_diesAt_61 (lv_at hl 1 rfl) ?_
          refine lv_iconst (v := 1) hx hb dX11_diesAt_63 (by decide) ?_
          refine mx_callV (As := [.int x10_19, .int 1]) (rest := []) ⟨hx, hb, hml, hown, hts⟩ (mtX11_told l D cI cB cK cS Y R m_thrown m_status m_isThere m_kinds m_newKinds m_print m_low m_high m_lot m_taped m_latest m_length m_cursor m_token m_from m_till m_fault m_faultAt m_traced r_lane r_many r_item r_market r_of r_newMarket r_newStart r_newOf r_newCoin r_state r_kept r_tape r_brings r_seen r_seenOut r_trace x10_19 1 (vp_in_iff.mpr (by rw [show (6 * x10_19 + 1).toInt = ((6 * x10_19.toInt) + 1) from (i_addv (i_mulv (show (6 : Int32).toInt = 6 from by decide) rfl (by omega) (by omega)) (show (1 : Int32).toInt = 1 from by decide) (by omega) (by omega))]; constructor <;> omega))) (cwV 2 hts gX11_diesAt_X11_told rfl rfl rfl (by decide +kernel) ⟨Nat.le_of_ble_eq_true rfl, Nat.le_of_ble_eq_true rfl⟩) pF0_ok trivial hK hP hD hS hA 0 rfl rfl rfl rfl hl.1 rfl (Nat.le_of_ble_eq_true rfl) dX11_diesAt_64 ⟨Nat.le_refl _, Nat.le_refl _⟩ (fun u_8 H locs eu_8 hP hD hS => ?_)
          refine W.eq (g2 := F0 m 67 ls [.int u_8]) rfl ?_
          have hP : va_P D vwCl (mdW Y cI m_thrown m_status m_isThere m_kinds m_newKinds m_print m_low m_high m_lot m_taped m_latest m_length m_cursor m_token m_from m_till m_fault m_faultAt m_traced r_lane r_many r_item r_market r_of r_newMarket r_newStart r_newOf r_newCoin r_state r_kept r_tape r_brings r_seen r_seenOut r_trace ++ R) H := hP
          have hD : va_D A (mdW Y cI m_thrown m_status m_isThere m_kinds m_newKinds m_print m_low m_high m_lot m_taped m_latest m_length m_cursor m_token m_from m_till m_fault m_faultAt m_traced r_lane r_many r_item r_market r_of r_newMarket r_newStart r_newOf r_newCoin r_state r_kept r_tape r_brings r_seen r_seenOut r_trace ++ R) := hD
          refine lv_istore (lv' := [(13, .int u_8), (11, .long y_4), (10, .int x10_19), (8, .long x8_19), (6, .long x6_19), (4, .long x4_19), (2, .long x2_19), (0, .ref (Y 0))]) hx hb dX11_diesAt_67 hl (by decide) rfl (fun ls hl => ?_)
          refine lv_aload_n hx hb dX11_diesAt_69 rfl (lv_at hl 7 rfl) ?_
          refine lv_iload hx hb dX11_diesAt_70 (lv_at hl 2 rfl) ?_
          refine lv_iconst (v := 0) hx hb dX11_diesAt_72 (by decide) ?_
          refine mx_callV (As := [.int x10_19, .int 0]) (rest := []) ⟨hx, hb, hml, hown, hts⟩ (mtX11_told l D cI cB cK cS Y R m_thrown m_status m_isThere m_kinds m_newKinds m_print m_low m_high m_lot m_taped m_latest m_length m_cursor m_token m_from m_till m_fault m_faultAt m_traced r_lane r_many r_item r_market r_of r_newMarket r_newStart r_newOf r_newCoin r_state r_kept r_tape r_brings r_seen r_seenOut r_trace x10_19 0 (vp_in_iff.mpr (by rw [show (6 * x10_19 + 0).toInt = ((6 * x10_19.toInt) + 0) from (i_addv (i_mulv (show (6 : Int32).toInt = 6 from by decide) rfl (by omega) (by omega)) (show (0 : Int32).toInt = 0 from by decide) (by omega) (by omega))]; constructor <;> omega))) (cwV 2 hts gX11_diesAt_X11_told rfl rfl rfl (by decide +kernel) ⟨Nat.le_of_ble_eq_true rfl, Nat.le_of_ble_eq_true rfl⟩) pF0_ok trivial hK hP hD hS hA 0 rfl rfl rfl rfl hl.1 rfl (Nat.le_of_ble_eq_true rfl) dX11_diesAt_73 ⟨Nat.le_refl _, Nat.le_refl _⟩ (fun u_9 H locs eu_9 hP hD hS => ?_)
          refine W.eq (g2 := F0 m 76 ls [.int u_9]) rfl ?_
          have hP : va_P D vwCl (mdW Y cI m_thrown m_status m_isThere m_kinds m_newKinds m_print m_low m_high m_lot m_taped m_latest m_length m_cursor m_token m_from m_till m_fault m_faultAt m_traced r_lane r_many r_item r_market r_of r_newMarket r_newStart r_newOf r_newCoin r_state r_kept r_tape r_brings r_seen r_seenOut r_trace ++ R) H := hP
          have hD : va_D A (mdW Y cI m_thrown m_status m_isThere m_kinds m_newKinds m_print m_low m_high m_lot m_taped m_latest m_length m_cursor m_token m_from m_till m_fault m_faultAt m_traced r_lane r_many r_item r_market r_of r_newMarket r_newStart r_newOf r_newCoin r_state r_kept r_tape r_brings r_seen r_seenOut r_trace ++ R) := hD
          rcases Classical.em (u_9 = 1) with c_10 | c_10
          · refine lv_tableIn (tgt := 116) hx hb dX11_diesAt_76 (by rw [c_10]; decide) (by rw [c_10]; decide) (by rw [c_10]; rfl) (by decide) ?_
            have d_10 := i_eq rfl (show (1 : Int32).toInt = 1 from by decide) c_10
            refine lv_lload_n hx hb dX11_diesAt_116 rfl (lv_at hl 6 rfl) ?_
            refine lv_ldc2 (v := 30) hx hb hown k241 dX11_diesAt_117 ?_
            refine lv_lload hx hb dX11_diesAt_120 (lv_at hl 1 rfl) ?_
            refine lv_lmul hx hb dX11_diesAt_122 ?_
            refine lv_ladd hx hb dX11_diesAt_123 ?_
            refine lv_topl (fun x_11 ex_11 => ?_)
            refine lv_lstore_n (lv' := [(2, .long x_11), (13, .int u_8), (11, .long y_4), (10, .int x10_19), (8, .long x8_19), (6, .long x6_19), (4, .long x4_19), (0, .ref (Y 0))]) hx hb dX11_diesAt_124 rfl hl (by decide) rfl (fun ls hl => ?_)
            refine lv_goto (tgt := 277) hx hb dX11_diesAt_125 (by decide) ?_
            obtain ⟨x_12, ex_12⟩ : ∃ z : Int32, z = x10_19 + 1 := ⟨_, rfl⟩
            refine lv_iinc (v := x_12) (lv' := [(10, .int x_12), (2, .long x_11), (13, .int u_8), (11, .long y_4), (8, .long x8_19), (6, .long x6_19), (4, .long x4_19), (0, .ref (Y 0))]) hx hb dX11_diesAt_277 hl (k := 3) rfl (by rw [ex_12]; rfl) (by decide) rfl (fun ls hl => ?_)
            refine lv_goto (tgt := 19) hx hb dX11_diesAt_280 (by decide) ?_
            have tx_12 : x_12.toInt = x10_19.toInt + 1 := i_inc ex_12 (by decide) (by omega) (by omega)
            refine ih_19 x_12 x8_19 x6_19 x4_19 x_11 H locs ls (by omega) (by omega) (by omega) hP hD hS (lv_sub hl [0, 4, 5, 6, 1, 7] rfl) (fun u H locs ls eu  hP hD hS hl => ?_)
            exact kont_19 u H locs ls (eu.trans (show lX11_diesAt_19 m_kinds r_of r_state (n + 1) x10_19 x8_19 x6_19 x4_19 x2_19 = lX11_diesAt_19 m_kinds r_of r_state n x_12 x8_19 x6_19 x4_19 x_11 from ((if_neg c_2).trans (lt_eq eu_3 (lt_eq ey_4 (lt_eq eu_8 (lt_eq eu_9 ((if_pos c_10).trans (lt_eq ex_11 (lt_eq ex_12 rfl))))))))).symm)  hP hD hS hl
          · rcases Classical.em (u_9 = 2) with c_13 | c_13
            · refine lv_tableIn (tgt := 128) hx hb dX11_diesAt_76 (by rw [c_13]; decide) (by rw [c_13]; decide) (by rw [c_13]; rfl) (by decide) ?_
              have d_13 := i_eq rfl (show (2 : Int32).toInt = 2 from by decide) c_13
              have hby0 : ¬ u_8 = 0 := fun h => hby x10_19 (by omega) (by omega) (by rw [← eu_9]; assumption) (by rw [← eu_8]; exact h)
              refine lv_lload_n hx hb dX11_diesAt_128 rfl (lv_at hl 6 rfl) ?_
              refine lv_ldc2 (v := 30) hx hb hown k241 dX11_diesAt_129 ?_
              refine lv_iload hx hb dX11_diesAt_132 (lv_at hl 0 rfl) ?_
              refine lv_i2l (v := u_8.toInt64) hx hb dX11_diesAt_134 rfl ?_
              refine lv_ldiv hx hb dX11_diesAt_135 (l_ne0 hby0) ?_
              refine lv_lload hx hb dX11_diesAt_136 (lv_at hl 1 rfl) ?_
              refine lv_lmul hx hb dX11_diesAt_138 ?_
              refine lv_ladd hx hb dX11_diesAt_139 ?_
              refine lv_topl (fun x_14 ex_14 => ?_)
              refine lv_lstore_n (lv' := [(2, .long x_14), (13, .int u_8), (11, .long y_4), (10, .int x10_19), (8, .long x8_19), (6, .long x6_19), (4, .long x4_19), (0, .ref (Y 0))]) hx hb dX11_diesAt_140 rfl hl (by decide) rfl (fun ls hl => ?_)
              refine lv_lload hx hb dX11_diesAt_141 (lv_at hl 6 rfl) ?_
              refine lv_iload hx hb dX11_diesAt_143 (lv_at hl 1 rfl) ?_
              refine lv_iconst (v := 1) hx hb dX11_diesAt_145 (by decide) ?_
              have J_15 : ∀ (y_15 : Int64) (H : Heap) (locs : List Loc) (ls : Array Slot), y_15 = (if u_8 ≤ 1 then (0) else (((30 / u_8.toInt64) * y_4))) → va_P D vwCl (mdW Y cI m_thrown m_status m_isThere m_kinds m_newKinds m_print m_low m_high m_lot m_taped m_latest m_length m_cursor m_token m_from m_till m_fault m_faultAt m_traced r_lane r_many r_item r_market r_of r_newMarket r_newStart r_newOf r_newCoin r_state r_kept r_tape r_brings r_seen r_seenOut r_trace ++ R) H → va_D A (mdW Y cI m_thrown m_status m_isThere m_kinds m_newKinds m_print m_low m_high m_lot m_taped m_latest m_length m_cursor m_token m_from m_till m_fault m_faultAt m_traced r_lane r_many r_item r_market r_of r_newMarket r_newStart r_newOf r_newCoin r_state r_kept r_tape r_brings r_seen r_seenOut r_trace ++ R) → va_S A s.heap H locs → lv_has ls 14 [(2, .long x_14), (13, .int u_8), (11, .long y_4), (10, .int x10_19), (8, .long x8_19), (6, .long x6_19), (0, .ref (Y 0))] → W p l e (rmX 2) s m ([.ref (Y 0), .int g] : List Value).toArray below meth c H locs 0 0 Qm (F0 m 163 ls [.long y_15, .long x4_19]) := by
                intro y_15 H locs ls ey_15 hP hD hS hl
                refine lv_ladd hx hb dX11_diesAt_163 ?_
                refine lv_topl (fun x_17 ex_17 => ?_)
                refine lv_lstore (lv' := [(4, .long x_17), (2, .long x_14), (13, .int u_8), (11, .long y_4), (10, .int x10_19), (8, .long x8_19), (6, .long x6_19), (0, .ref (Y 0))]) hx hb dX11_diesAt_164 hl (by decide) rfl (fun ls hl => ?_)
                refine lv_lload hx hb dX11_diesAt_166 (lv_at hl 6 rfl) ?_
                refine lv_iload hx hb dX11_diesAt_168 (lv_at hl 2 rfl) ?_
                refine lv_iconst (v := 2) hx hb dX11_diesAt_170 (by decide) ?_
                have J_18 : ∀ (y_18 : Int64) (H : Heap) (locs : List Loc) (ls : Array Slot), y_18 = (if u_8 ≤ 2 then (0) else (((30 / u_8.toInt64) * y_4))) → va_P D vwCl (mdW Y cI m_thrown m_status m_isThere m_kinds m_newKinds m_print m_low m_high m_lot m_taped m_latest m_length m_cursor m_token m_from m_till m_fault m_faultAt m_traced r_lane r_many r_item r_market r_of r_newMarket r_newStart r_newOf r_newCoin r_state r_kept r_tape r_brings r_seen r_seenOut r_trace ++ R) H → va_D A (mdW Y cI m_thrown m_status m_isThere m_kinds m_newKinds m_print m_low m_high m_lot m_taped m_latest m_length m_cursor m_token m_from m_till m_fault m_faultAt m_traced r_lane r_many r_item r_market r_of r_newMarket r_newStart r_newOf r_newCoin r_state r_kept r_tape r_brings r_seen r_seenOut r_trace ++ R) → va_S A s.heap H locs → lv_has ls 14 [(4, .long x_17), (2, .long x_14), (10, .int x10_19), (8, .long x8_19), (0, .ref (Y 0))] → W p l e (rmX 2) s m ([.ref (Y 0), .int g] : List Value).toArray below meth c H locs 0 0 Qm (F0 m 188 ls [.long y_18, .long x6_19]) := by
                  intro y_18 H locs ls ey_18 hP hD hS hl
                  refine lv_ladd hx hb dX11_diesAt_188 ?_
                  refine lv_topl (fun x_20 ex_20 => ?_)
                  refine lv_lstore (lv' := [(6, .long x_20), (4, .long x_17), (2, .long x_14), (10, .int x10_19), (8, .long x8_19), (0, .ref (Y 0))]) hx hb dX11_diesAt_189 hl (by decide) rfl (fun ls hl => ?_)
                  refine lv_goto (tgt := 277) hx hb dX11_diesAt_191 (by decide) ?_
                  obtain ⟨x_21, ex_21⟩ : ∃ z : Int32, z = x10_19 + 1 := ⟨_, rfl⟩
                  refine lv_iinc (v := x_21) (lv' := [(10, .int x_21), (6, .long x_20), (4, .long x_17), (2, .long x_14), (8, .long x8_19), (0, .ref (Y 0))]) hx hb dX11_diesAt_277 hl (k := 3) rfl (by rw [ex_21]; rfl) (by decide) rfl (fun ls hl => ?_)
                  refine lv_goto (tgt := 19) hx hb dX11_diesAt_280 (by decide) ?_
                  have tx_21 : x_21.toInt = x10_19.toInt + 1 := i_inc ex_21 (by decide) (by omega) (by omega)
                  refine ih_19 x_21 x8_19 x_20 x_17 x_14 H locs ls (by omega) (by omega) (by omega) hP hD hS (lv_sub hl [0, 4, 1, 2, 3, 5] rfl) (fun u H locs ls eu  hP hD hS hl => ?_)
                  exact kont_19 u H locs ls (eu.trans (show lX11_diesAt_19 m_kinds r_of r_state (n + 1) x10_19 x8_19 x6_19 x4_19 x2_19 = lX11_diesAt_19 m_kinds r_of r_state n x_21 x8_19 x_20 x_17 x_14 from ((if_neg c_2).trans (lt_eq eu_3 (lt_eq ey_4 (lt_eq eu_8 (lt_eq eu_9 ((if_neg c_10).trans ((if_pos c_13).trans (lt_eq ex_14 (lt_eq ey_15 (lt_eq ex_17 (lt_eq ey_18 (lt_eq ex_20 (lt_eq ex_21 rfl)))))))))))))).symm)  hP hD hS hl
                refine lv_icmp_le (tgt := 187) hx hb dX11_diesAt_171 (by decide) (fun c_19 => ?_) (fun c_19 => ?_)
                · have d_19 := i_le rfl (show (2 : Int32).toInt = 2 from by decide) c_19
                  refine lv_lconst (v := 0) hx hb dX11_diesAt_187 (by decide) ?_
                  exact J_18 0 H locs ls (Eq.symm ((if_pos c_19).trans rfl)) hP hD hS (lv_sub hl [0, 1, 4, 5, 7] rfl)
                · have d_19 := i_len rfl (show (2 : Int32).toInt = 2 from by decide) c_19
                  refine lv_ldc2 (v := 30) hx hb hown k241 dX11_diesAt_174 ?_
                  refine lv_iload hx hb dX11_diesAt_177 (lv_at hl 2 rfl) ?_
                  refine lv_i2l (v := u_8.toInt64) hx hb dX11_diesAt_179 rfl ?_
                  refine lv_ldiv hx hb dX11_diesAt_180 (l_ne0 hby0) ?_
                  refine lv_lload hx hb dX11_diesAt_181 (lv_at hl 3 rfl) ?_
                  refine lv_lmul hx hb dX11_diesAt_183 ?_
                  refine lv_goto (tgt := 188) hx hb dX11_diesAt_184 (by decide) ?_
                  exact J_18 ((30 / u_8.toInt64) * y_4) H locs ls (Eq.symm ((if_neg c_19).trans rfl)) hP hD hS (lv_sub hl [0, 1, 4, 5, 7] rfl)
              refine lv_icmp_le (tgt := 162) hx hb dX11_diesAt_146 (by decide) (fun c_16 => ?_) (fun c_16 => ?_)
              · have d_16 := i_le rfl (show (1 : Int32).toInt = 1 from by decide) c_16
                refine lv_lconst (v := 0) hx hb dX11_diesAt_162 (by decide) ?_
                exact J_15 0 H locs ls (Eq.symm ((if_pos c_16).trans rfl)) hP hD hS (lv_sub hl [0, 1, 2, 3, 4, 5, 7] rfl)
              · have d_16 := i_len rfl (show (1 : Int32).toInt = 1 from by decide) c_16
                refine lv_ldc2 (v := 30) hx hb hown k241 dX11_diesAt_149 ?_
                refine lv_iload hx hb dX11_diesAt_152 (lv_at hl 1 rfl) ?_
                refine lv_i2l (v := u_8.toInt64) hx hb dX11_diesAt_154 rfl ?_
                refine lv_ldiv hx hb dX11_diesAt_155 (l_ne0 hby0) ?_
                refine lv_lload hx hb dX11_diesAt_156 (lv_at hl 2 rfl) ?_
                refine lv_lmul hx hb dX11_diesAt_158 ?_
                refine lv_goto (tgt := 163) hx hb dX11_diesAt_159 (by decide) ?_
                exact J_15 ((30 / u_8.toInt64) * y_4) H locs ls (Eq.symm ((if_neg c_16).trans rfl)) hP hD hS (lv_sub hl [0, 1, 2, 3, 4, 5, 7] rfl)
            · rcases Classical.em (u_9 = 3) with c_22 | c_22
              · refine lv_tableIn (tgt := 194) hx hb dX11_diesAt_76 (by rw [c_22]; decide) (by rw [c_22]; decide) (by rw [c_22]; rfl) (by decide) ?_
                have d_22 := i_eq rfl (show (3 : Int32).toInt = 3 from by decide) c_22
                refine lv_lload_n hx hb dX11_diesAt_194 rfl (lv_at hl 6 rfl) ?_
                refine lv_ldc2 (v := 30) hx hb hown k241 dX11_diesAt_195 ?_
                refine lv_ldc2 (v := 3) hx hb hown k243 dX11_diesAt_198 ?_
                refine lv_iload hx hb dX11_diesAt_201 (lv_at hl 0 rfl) ?_
                refine lv_i2l (v := u_8.toInt64) hx hb dX11_diesAt_203 rfl ?_
                refine lv_lmul hx hb dX11_diesAt_204 ?_
                refine lv_ladd hx hb dX11_diesAt_205 ?_
                refine lv_lload hx hb dX11_diesAt_206 (lv_at hl 1 rfl) ?_
                refine lv_lmul hx hb dX11_diesAt_208 ?_
                refine lv_ladd hx hb dX11_diesAt_209 ?_
                refine lv_topl (fun x_23 ex_23 => ?_)
                refine lv_lstore_n (lv' := [(2, .long x_23), (13, .int u_8), (11, .long y_4), (10, .int x10_19), (8, .long x8_19), (6, .long x6_19), (4, .long x4_19), (0, .ref (Y 0))]) hx hb dX11_diesAt_210 rfl hl (by decide) rfl (fun ls hl => ?_)
                refine lv_lload hx hb dX11_diesAt_211 (lv_at hl 6 rfl) ?_
                refine lv_ldc2 (v := 3) hx hb hown k243 dX11_diesAt_213 ?_
                refine lv_iload hx hb dX11_diesAt_216 (lv_at hl 1 rfl) ?_
                refine lv_i2l (v := u_8.toInt64) hx hb dX11_diesAt_218 rfl ?_
                refine lv_lmul hx hb dX11_diesAt_219 ?_
                refine lv_lload hx hb dX11_diesAt_220 (lv_at hl 2 rfl) ?_
                refine lv_lmul hx hb dX11_diesAt_222 ?_
                refine lv_lsub hx hb dX11_diesAt_223 ?_
                refine lv_topl (fun x_24 ex_24 => ?_)
                refine lv_lstore (lv' := [(4, .long x_24), (2, .long x_23), (13, .int u_8), (11, .long y_4), (10, .int x10_19), (8, .long x8_19), (6, .long x6_19), (0, .ref (Y 0))]) hx hb dX11_diesAt_224 hl (by decide) rfl (fun ls hl => ?_)
                refine lv_goto (tgt := 277) hx hb dX11_diesAt_226 (by decide) ?_
                obtain ⟨x_25, ex_25⟩ : ∃ z : Int32, z = x10_19 + 1 := ⟨_, rfl⟩
                refine lv_iinc (v := x_25) (lv' := [(10, .int x_25), (4, .long x_24), (2, .long x_23), (13, .int u_8), (11, .long y_4), (8, .long x8_19), (6, .long x6_19), (0, .ref (Y 0))]) hx hb dX11_diesAt_277 hl (k := 4) rfl (by rw [ex_25]; rfl) (by decide) rfl (fun ls hl => ?_)
                refine lv_goto (tgt := 19) hx hb dX11_diesAt_280 (by decide) ?_
                have tx_25 : x_25.toInt = x10_19.toInt + 1 := i_inc ex_25 (by decide) (by omega) (by omega)
                refine ih_19 x_25 x8_19 x6_19 x_24 x_23 H locs ls (by omega) (by omega) (by omega) hP hD hS (lv_sub hl [0, 5, 6, 1, 2, 7] rfl) (fun u H locs ls eu  hP hD hS hl => ?_)
                exact kont_19 u H locs ls (eu.trans (show lX11_diesAt_19 m_kinds r_of r_state (n + 1) x10_19 x8_19 x6_19 x4_19 x2_19 = lX11_diesAt_19 m_kinds r_of r_state n x_25 x8_19 x6_19 x_24 x_23 from ((if_neg c_2).trans (lt_eq eu_3 (lt_eq ey_4 (lt_eq eu_8 (lt_eq eu_9 ((if_neg c_10).trans ((if_neg c_13).trans ((if_pos c_22).trans (lt_eq ex_23 (lt_eq ex_24 (lt_eq ex_25 rfl)))))))))))).symm)  hP hD hS hl
              · rcases Classical.em (u_9 = 4) with c_26 | c_26
                · refine lv_tableIn (tgt := 229) hx hb dX11_diesAt_76 (by rw [c_26]; decide) (by rw [c_26]; decide) (by rw [c_26]; rfl) (by decide) ?_
                  have d_26 := i_eq rfl (show (4 : Int32).toInt = 4 from by decide) c_26
                  refine lv_lload_n hx hb dX11_diesAt_229 rfl (lv_at hl 6 rfl) ?_
                  refine lv_ldc2 (v := 10) hx hb hown k245 dX11_diesAt_230 ?_
                  refine lv_lload hx hb dX11_diesAt_233 (lv_at hl 1 rfl) ?_
                  refine lv_lmul hx hb dX11_diesAt_235 ?_
                  refine lv_lsub hx hb dX11_diesAt_236 ?_
                  refine lv_topl (fun x_27 ex_27 => ?_)
                  refine lv_lstore_n (lv' := [(2, .long x_27), (13, .int u_8), (11, .long y_4), (10, .int x10_19), (8, .long x8_19), (6, .long x6_19), (4, .long x4_19), (0, .ref (Y 0))]) hx hb dX11_diesAt_237 rfl hl (by decide) rfl (fun ls hl => ?_)
                  refine lv_lload hx hb dX11_diesAt_238 (lv_at hl 6 rfl) ?_
                  refine lv_ldc2 (v := 20) hx hb hown k247 dX11_diesAt_240 ?_
                  refine lv_lload hx hb dX11_diesAt_243 (lv_at hl 2 rfl) ?_
                  refine lv_lmul hx hb dX11_diesAt_245 ?_
                  refine lv_ladd hx hb dX11_diesAt_246 ?_
                  refine lv_topl (fun x_28 ex_28 => ?_)
                  refine lv_lstore (lv' := [(4, .long x_28), (2, .long x_27), (13, .int u_8), (11, .long y_4), (10, .int x10_19), (8, .long x8_19), (6, .long x6_19), (0, .ref (Y 0))]) hx hb dX11_diesAt_247 hl (by decide) rfl (fun ls hl => ?_)
                  refine lv_lload hx hb dX11_diesAt_249 (lv_at hl 6 rfl) ?_
                  refine lv_ldc2 (v := 20) hx hb hown k247 dX11_diesAt_251 ?_
                  refine lv_lload hx hb dX11_diesAt_254 (lv_at hl 3 rfl) ?_
                  refine lv_lmul hx hb dX11_diesAt_256 ?_
                  refine lv_ladd hx hb dX11_diesAt_257 ?_
                  refine lv_topl (fun x_29 ex_29 => ?_)
                  refine lv_lstore (lv' := [(6, .long x_29), (4, .long x_28), (2, .long x_27), (13, .int u_8), (11, .long y_4), (10, .int x10_19), (8, .long x8_19), (0, .ref (Y 0))]) hx hb dX11_diesAt_258 hl (by decide) rfl (fun ls hl => ?_)
                  refine lv_goto (tgt := 277) hx hb dX11_diesAt_260 (by decide) ?_
                  obtain ⟨x_30, ex_30⟩ : ∃ z : Int32, z = x10_19 + 1 := ⟨_, rfl⟩
                  refine lv_iinc (v := x_30) (lv' := [(10, .int x_30), (6, .long x_29), (4, .long x_28), (2, .long x_27), (13, .int u_8), (11, .long y_4), (8, .long x8_19), (0, .ref (Y 0))]) hx hb dX11_diesAt_277 hl (k := 5) rfl (by rw [ex_30]; rfl) (by decide) rfl (fun ls hl => ?_)
                  refine lv_goto (tgt := 19) hx hb dX11_diesAt_280 (by decide) ?_
                  have tx_30 : x_30.toInt = x10_19.toInt + 1 := i_inc ex_30 (by decide) (by omega) (by omega)
                  refine ih_19 x_30 x8_19 x_29 x_28 x_27 H locs ls (by omega) (by omega) (by omega) hP hD hS (lv_sub hl [0, 6, 1, 2, 3, 7] rfl) (fun u H locs ls eu  hP hD hS hl => ?_)
                  exact kont_19 u H locs ls (eu.trans (show lX11_diesAt_19 m_kinds r_of r_state (n + 1) x10_19 x8_19 x6_19 x4_19 x2_19 = lX11_diesAt_19 m_kinds r_of r_state n x_30 x8_19 x_29 x_28 x_27 from ((if_neg c_2).trans (lt_eq eu_3 (lt_eq ey_4 (lt_eq eu_8 (lt_eq eu_9 ((if_neg c_10).trans ((if_neg c_13).trans ((if_neg c_22).trans ((if_pos c_26).trans (lt_eq ex_27 (lt_eq ex_28 (lt_eq ex_29 (lt_eq ex_30 rfl)))))))))))))).symm)  hP hD hS hl
                · rcases Classical.em (u_9 = 5) with c_31 | c_31
                  · refine lv_tableIn (tgt := 277) hx hb dX11_diesAt_76 (by rw [c_31]; decide) (by rw [c_31]; decide) (by rw [c_31]; rfl) (by decide) ?_
                    have d_31 := i_eq rfl (show (5 : Int32).toInt = 5 from by decide) c_31
                    obtain ⟨x_32, ex_32⟩ : ∃ z : Int32, z = x10_19 + 1 := ⟨_, rfl⟩
                    refine lv_iinc (v := x_32) (lv' := [(10, .int x_32), (13, .int u_8), (11, .long y_4), (8, .long x8_19), (6, .long x6_19), (4, .long x4_19), (2, .long x2_19), (0, .ref (Y 0))]) hx hb dX11_diesAt_277 hl (k := 2) rfl (by rw [ex_32]; rfl) (by decide) rfl (fun ls hl => ?_)
                    refine lv_goto (tgt := 19) hx hb dX11_diesAt_280 (by decide) ?_
                    have tx_32 : x_32.toInt = x10_19.toInt + 1 := i_inc ex_32 (by decide) (by omega) (by omega)
                    refine ih_19 x_32 x8_19 x6_19 x4_19 x2_19 H locs ls (by omega) (by omega) (by omega) hP hD hS (lv_sub hl [0, 3, 4, 5, 6, 7] rfl) (fun u H locs ls eu  hP hD hS hl => ?_)
                    exact kont_19 u H locs ls (eu.trans (show lX11_diesAt_19 m_kinds r_of r_state (n + 1) x10_19 x8_19 x6_19 x4_19 x2_19 = lX11_diesAt_19 m_kinds r_of r_state n x_32 x8_19 x6_19 x4_19 x2_19 from ((if_neg c_2).trans (lt_eq eu_3 (lt_eq ey_4 (lt_eq eu_8 (lt_eq eu_9 ((if_neg c_10).trans ((if_neg c_13).trans ((if_neg c_22).trans ((if_neg c_26).trans ((if_pos c_31).trans (lt_eq ex_32 rfl)))))))))))).symm)  hP hD hS hl
                  · rcases Classical.em (u_9 = 6) with c_33 | c_33
                    · refine lv_tableIn (tgt := 263) hx hb dX11_diesAt_76 (by rw [c_33]; decide) (by rw [c_33]; decide) (by rw [c_33]; rfl) (by decide) ?_
                      have d_33 := i_eq rfl (show (6 : Int32).toInt = 6 from by decide) c_33
                      refine lv_lload hx hb dX11_diesAt_263 (lv_at hl 3 rfl) ?_
                      refine lv_ldc2 (v := 30) hx hb hown k241 dX11_diesAt_265 ?_
                      refine lv_lload hx hb dX11_diesAt_268 (lv_at hl 1 rfl) ?_
                      refine lv_lmul hx hb dX11_diesAt_270 ?_
                      refine lv_ladd hx hb dX11_diesAt_271 ?_
                      refine lv_topl (fun x_34 ex_34 => ?_)
                      refine lv_lstore (lv' := [(8, .long x_34), (13, .int u_8), (11, .long y_4), (10, .int x10_19), (6, .long x6_19), (4, .long x4_19), (2, .long x2_19), (0, .ref (Y 0))]) hx hb dX11_diesAt_272 hl (by decide) rfl (fun ls hl => ?_)
                      refine lv_goto (tgt := 277) hx hb dX11_diesAt_274 (by decide) ?_
                      obtain ⟨x_35, ex_35⟩ : ∃ z : Int32, z = x10_19 + 1 := ⟨_, rfl⟩
                      refine lv_iinc (v := x_35) (lv' := [(10, .int x_35), (8, .long x_34), (13, .int u_8), (11, .long y_4), (6, .long x6_19), (4, .long x4_19), (2, .long x2_19), (0, .ref (Y 0))]) hx hb dX11_diesAt_277 hl (k := 3) rfl (by rw [ex_35]; rfl) (by decide) rfl (fun ls hl => ?_)
                      refine lv_goto (tgt := 19) hx hb dX11_diesAt_280 (by decide) ?_
                      have tx_35 : x_35.toInt = x10_19.toInt + 1 := i_inc ex_35 (by decide) (by omega) (by omega)
                      refine ih_19 x_35 x_34 x6_19 x4_19 x2_19 H locs ls (by omega) (by omega) (by omega) hP hD hS (lv_sub hl [0, 1, 4, 5, 6, 7] rfl) (fun u H locs ls eu  hP hD hS hl => ?_)
                      exact kont_19 u H locs ls (eu.trans (show lX11_diesAt_19 m_kinds r_of r_state (n + 1) x10_19 x8_19 x6_19 x4_19 x2_19 = lX11_diesAt_19 m_kinds r_of r_state n x_35 x_34 x6_19 x4_19 x2_19 from ((if_neg c_2).trans (lt_eq eu_3 (lt_eq ey_4 (lt_eq eu_8 (lt_eq eu_9 ((if_neg c_10).trans ((if_neg c_13).trans ((if_neg c_22).trans ((if_neg c_26).trans ((if_neg c_31).trans ((if_pos c_33).trans (lt_eq ex_34 (lt_eq ex_35 rfl)))))))))))))).symm)  hP hD hS hl
                    · refine lv_tableOut (tgt := 277) hx hb dX11_diesAt_76 (by have := lv_neT c_10 (show (1 : Int32).toInt = 1 from by decide); have := lv_neT c_13 (show (2 : Int32).toInt = 2 from by decide); have := lv_neT c_22 (show (3 : Int32).toInt = 3 from by decide); have := lv_neT c_26 (show (4 : Int32).toInt = 4 from by decide); have := lv_neT c_31 (show (5 : Int32).toInt = 5 from by decide); have := lv_neT c_33 (show (6 : Int32).toInt = 6 from by decide); omega) (by decide) ?_
                      obtain ⟨x_36, ex_36⟩ : ∃ z : Int32, z = x10_19 + 1 := ⟨_, rfl⟩
                      refine lv_iinc (v := x_36) (lv' := [(10, .int x_36), (13, .int u_8), (11, .long y_4), (8, .long x8_19), (6, .long x6_19), (4, .long x4_19), (2, .long x2_19), (0, .ref (Y 0))]) hx hb dX11_diesAt_277 hl (k := 2) rfl (by rw [ex_36]; rfl) (by decide) rfl (fun ls hl => ?_)
                      refine lv_goto (tgt := 19) hx hb dX11_diesAt_280 (by decide) ?_
                      have tx_36 : x_36.toInt = x10_19.toInt + 1 := i_inc ex_36 (by decide) (by omega) (by omega)
                      refine ih_19 x_36 x8_19 x6_19 x4_19 x2_19 H locs ls (by omega) (by omega) (by omega) hP hD hS (lv_sub hl [0, 3, 4, 5, 6, 7] rfl) (fun u H locs ls eu  hP hD hS hl => ?_)
                      exact kont_19 u H locs ls (eu.trans (show lX11_diesAt_19 m_kinds r_of r_state (n + 1) x10_19 x8_19 x6_19 x4_19 x2_19 = lX11_diesAt_19 m_kinds r_of r_state n x_36 x8_19 x6_19 x4_19 x2_19 from ((if_neg c_2).trans (lt_eq eu_3 (lt_eq ey_4 (lt_eq eu_8 (lt_eq eu_9 ((if_neg c_10).trans ((if_neg c_13).trans ((if_neg c_22).trans ((if_neg c_26).trans ((if_neg c_31).trans ((if_neg c_33).trans (lt_eq ex_36 rfl))))))))))))).symm)  hP hD hS hl
        refine lv_if_eq (tgt := 41) hx hb dX11_diesAt_34 (by decide) (fun c_5 => ?_) (fun c_5 => ?_)
        · have d_5 := i_eq rfl (show (0 : Int32).toInt = 0 from by decide) c_5
          refine lv_aload_n hx hb dX11_diesAt_41 rfl (lv_at hl 5 rfl) ?_
          refine lv_iload hx hb dX11_diesAt_42 (lv_at hl 0 rfl) ?_
          refine lv_iconst (v := 2) hx hb dX11_diesAt_44 (by decide) ?_
          refine mx_callV (As := [.int x10_19, .int 2]) (rest := []) ⟨hx, hb, hml, hown, hts⟩ (mtX11_told l D cI cB cK cS Y R m_thrown m_status m_isThere m_kinds m_newKinds m_print m_low m_high m_lot m_taped m_latest m_length m_cursor m_token m_from m_till m_fault m_faultAt m_traced r_lane r_many r_item r_market r_of r_newMarket r_newStart r_newOf r_newCoin r_state r_kept r_tape r_brings r_seen r_seenOut r_trace x10_19 2 (vp_in_iff.mpr (by rw [show (6 * x10_19 + 2).toInt = ((6 * x10_19.toInt) + 2) from (i_addv (i_mulv (show (6 : Int32).toInt = 6 from by decide) rfl (by omega) (by omega)) (show (2 : Int32).toInt = 2 from by decide) (by omega) (by omega))]; constructor <;> omega))) (cwV 2 hts gX11_diesAt_X11_told rfl rfl rfl (by decide +kernel) ⟨Nat.le_of_ble_eq_true rfl, Nat.le_of_ble_eq_true rfl⟩) pF0_ok trivial hK hP hD hS hA 0 rfl rfl rfl rfl hl.1 rfl (Nat.le_of_ble_eq_true rfl) dX11_diesAt_45 ⟨Nat.le_refl _, Nat.le_refl _⟩ (fun u_6 H locs eu_6 hP hD hS => ?_)
          refine W.eq (g2 := F0 m 48 ls [.int u_6]) rfl ?_
          have hP : va_P D vwCl (mdW Y cI m_thrown m_status m_isThere m_kinds m_newKinds m_print m_low m_high m_lot m_taped m_latest m_length m_cursor m_token m_from m_till m_fault m_faultAt m_traced r_lane r_many r_item r_market r_of r_newMarket r_newStart r_newOf r_newCoin r_state r_kept r_tape r_brings r_seen r_seenOut r_trace ++ R) H := hP
          have hD : va_D A (mdW Y cI m_thrown m_status m_isThere m_kinds m_newKinds m_print m_low m_high m_lot m_taped m_latest m_length m_cursor m_token m_from m_till m_fault m_faultAt m_traced r_lane r_many r_item r_market r_of r_newMarket r_newStart r_newOf r_newCoin r_state r_kept r_tape r_brings r_seen r_seenOut r_trace ++ R) := hD
          refine lv_i2l (v := u_6.toInt64) hx hb dX11_diesAt_48 rfl ?_
          refine lv_aload_n hx hb dX11_diesAt_49 rfl (lv_at hl 5 rfl) ?_
          refine lv_iload hx hb dX11_diesAt_50 (lv_at hl 0 rfl) ?_
          refine lv_iconst (v := 4) hx hb dX11_diesAt_52 (by decide) ?_
          refine mx_callV (As := [.int x10_19, .int 4]) (rest := [.long u_6.toInt64]) ⟨hx, hb, hml, hown, hts⟩ (mtX11_told l D cI cB cK cS Y R m_thrown m_status m_isThere m_kinds m_newKinds m_print m_low m_high m_lot m_taped m_latest m_length m_cursor m_token m_from m_till m_fault m_faultAt m_traced r_lane r_many r_item r_market r_of r_newMarket r_newStart r_newOf r_newCoin r_state r_kept r_tape r_brings r_seen r_seenOut r_trace x10_19 4 (vp_in_iff.mpr (by rw [show (6 * x10_19 + 4).toInt = ((6 * x10_19.toInt) + 4) from (i_addv (i_mulv (show (6 : Int32).toInt = 6 from by decide) rfl (by omega) (by omega)) (show (4 : Int32).toInt = 4 from by decide) (by omega) (by omega))]; constructor <;> omega))) (cwV 2 hts gX11_diesAt_X11_told rfl rfl rfl (by decide +kernel) ⟨Nat.le_of_ble_eq_true rfl, Nat.le_of_ble_eq_true rfl⟩) pF0_ok trivial hK hP hD hS hA 0 rfl rfl rfl rfl hl.1 rfl (Nat.le_of_ble_eq_true rfl) dX11_diesAt_53 ⟨Nat.le_refl _, Nat.le_refl _⟩ (fun u_7 H locs eu_7 hP hD hS => ?_)
          refine W.eq (g2 := F0 m 56 ls [.int u_7, .long u_6.toInt64]) rfl ?_
          have hP : va_P D vwCl (mdW Y cI m_thrown m_status m_isThere m_kinds m_newKinds m_print m_low m_high m_lot m_taped m_latest m_length m_cursor m_token m_from m_till m_fault m_faultAt m_traced r_lane r_many r_item r_market r_of r_newMarket r_newStart r_newOf r_newCoin r_state r_kept r_tape r_brings r_seen r_seenOut r_trace ++ R) H := hP
          have hD : va_D A (mdW Y cI m_thrown m_status m_isThere m_kinds m_newKinds m_print m_low m_high m_lot m_taped m_latest m_length m_cursor m_token m_from m_till m_fault m_faultAt m_traced r_lane r_many r_item r_market r_of r_newMarket r_newStart r_newOf r_newCoin r_state r_kept r_tape r_brings r_seen r_seenOut r_trace ++ R) := hD
          refine lv_i2l (v := u_7.toInt64) hx hb dX11_diesAt_56 rfl ?_
          refine lv_lmul hx hb dX11_diesAt_57 ?_
          exact J_4 (u_6.toInt64 * u_7.toInt64) H locs ls (Eq.symm ((if_pos c_5).trans (lt_eq eu_6 (lt_eq eu_7 rfl)))) hP hD hS (lv_sub hl [0, 1, 2, 3, 4, 5] rfl)
        · have d_5 := i_eqn rfl (show (0 : Int32).toInt = 0 from by decide) c_5
          refine lv_lconst (v := 0) hx hb dX11_diesAt_37 (by decide) ?_
          refine lv_goto (tgt := 58) hx hb dX11_diesAt_38 (by decide) ?_
          exact J_4 0 H locs ls (Eq.symm ((if_neg c_5).trans rfl)) hP hD hS (lv_sub hl [0, 1, 2, 3, 4, 5] rfl)
  refine L_19 6 0 x_1 0 0 0 H locs ls (by decide) (by decide) (by decide) hP hD hS (lv_sub hl [0, 1, 2, 3, 4, 5] rfl) (fun u_37 H locs ls eu_37  hP hD hS hl => ?_)
  have hP : va_P D vwCl (mdW Y cI m_thrown m_status m_isThere m_kinds m_newKinds m_print m_low m_high m_lot m_taped m_latest m_length m_cursor m_token m_from m_till m_fault m_faultAt m_traced r_lane r_many r_item r_market r_of r_newMarket r_newStart r_newOf r_newCoin r_state r_kept r_tape r_brings r_seen r_seenOut r_trace ++ R) H := hP
  have hD : va_D A (mdW Y cI m_thrown m_status m_isThere m_kinds m_newKinds m_print m_low m_high m_lot m_taped m_latest m_length m_cursor m_token m_from m_till m_fault m_faultAt m_traced r_lane r_many r_item r_market r_of r_newMarket r_newStart r_newOf r_newCoin r_state r_kept r_tape r_brings r_seen r_seenOut r_trace ++ R) := hD
  refine lv_lload hx hb dX11_diesAt_283 (lv_at hl 1 rfl) ?_
  refine mx_callS (As := [.long u_37.2.2.1]) (rest := []) ⟨hx, hb, hml, hown, hts⟩ (mtX11_size l D cI cB cK cS (mdW Y cI m_thrown m_status m_isThere m_kinds m_newKinds m_print m_low m_high m_lot m_taped m_latest m_length m_cursor m_token m_from m_till m_fault m_faultAt m_traced r_lane r_many r_item r_market r_of r_newMarket r_newStart r_newOf r_newCoin r_state r_kept r_tape r_brings r_seen r_seenOut r_trace ++ R) u_37.2.2.1) (va_cwS 1 hts gX11_diesAt_X11_size rfl rfl rfl (by decide +kernel) ⟨Nat.le_of_ble_eq_true rfl, Nat.le_of_ble_eq_true rfl⟩) pF0_ok trivial hK hP hD hS hA rfl hl.1 rfl (Nat.le_of_ble_eq_true rfl) dX11_diesAt_285 ⟨Nat.le_refl _, Nat.le_refl _⟩ (fun u_38 H locs eu_38 hP hD hS => ?_)
  refine W.eq (g2 := F0 m 288 ls [.long u_38]) rfl ?_
  have hP : va_P D vwCl (mdW Y cI m_thrown m_status m_isThere m_kinds m_newKinds m_print m_low m_high m_lot m_taped m_latest m_length m_cursor m_token m_from m_till m_fault m_faultAt m_traced r_lane r_many r_item r_market r_of r_newMarket r_newStart r_newOf r_newCoin r_state r_kept r_tape r_brings r_seen r_seenOut r_trace ++ R) H := hP
  have hD : va_D A (mdW Y cI m_thrown m_status m_isThere m_kinds m_newKinds m_print m_low m_high m_lot m_taped m_latest m_length m_cursor m_token m_from m_till m_fault m_faultAt m_traced r_lane r_many r_item r_market r_of r_newMarket r_newStart r_newOf r_newCoin r_state r_kept r_tape r_brings r_seen r_seenOut r_trace ++ R) := hD
  refine lv_lload hx hb dX11_diesAt_288 (lv_at hl 0 rfl) ?_
  refine mx_callS (As := [.long u_38, .long u_37.2.1]) (rest := []) ⟨hx, hb, hml, hown, hts⟩ (mtX11_side l D cI cB cK cS (mdW Y cI m_thrown m_status m_isThere m_kinds m_newKinds m_print m_low m_high m_lot m_taped m_latest m_length m_cursor m_token m_from m_till m_fault m_faultAt m_traced r_lane r_many r_item r_market r_of r_newMarket r_newStart r_newOf r_newCoin r_state r_kept r_tape r_brings r_seen r_seenOut r_trace ++ R) u_38 u_37.2.1) (va_cwS 2 hts gX11_diesAt_X11_side rfl rfl rfl (by decide +kernel) ⟨Nat.le_of_ble_eq_true rfl, Nat.le_of_ble_eq_true rfl⟩) pF0_ok trivial hK hP hD hS hA rfl hl.1 rfl (Nat.le_of_ble_eq_true rfl) dX11_diesAt_290 ⟨Nat.le_refl _, Nat.le_refl _⟩ (fun u_39 H locs eu_39 hP hD hS => ?_)
  refine W.eq (g2 := F0 m 293 ls [.int u_39]) rfl ?_
  have hP : va_P D vwCl (mdW Y cI m_thrown m_status m_isThere m_kinds m_newKinds m_print m_low m_high m_lot m_taped m_latest m_length m_cursor m_token m_from m_till m_fault m_faultAt m_traced r_lane r_many r_item r_market r_of r_newMarket r_newStart r_newOf r_newCoin r_state r_kept r_tape r_brings r_seen r_seenOut r_trace ++ R) H := hP
  have hD : va_D A (mdW Y cI m_thrown m_status m_isThere m_kinds m_newKinds m_print m_low m_high m_lot m_taped m_latest m_length m_cursor m_token m_from m_till m_fault m_faultAt m_traced r_lane r_many r_item r_market r_of r_newMarket r_newStart r_newOf r_newCoin r_state r_kept r_tape r_brings r_seen r_seenOut r_trace ++ R) := hD
  refine lv_istore (lv' := [(10, .int u_39), (8, .long u_37.2.1), (6, .long u_37.2.2.1), (4, .long u_37.2.2.2.1), (2, .long u_37.2.2.2.2)]) hx hb dX11_diesAt_293 hl (by decide) rfl (fun ls hl => ?_)
  refine lv_lload_n hx hb dX11_diesAt_295 rfl (lv_at hl 4 rfl) ?_
  refine lv_lload hx hb dX11_diesAt_296 (lv_at hl 2 rfl) ?_
  refine lv_ladd hx hb dX11_diesAt_298 ?_
  refine mx_callS (As := [.long (u_37.2.2.2.2 + u_37.2.2.1)]) (rest := []) ⟨hx, hb, hml, hown, hts⟩ (mtX11_size l D cI cB cK cS (mdW Y cI m_thrown m_status m_isThere m_kinds m_newKinds m_print m_low m_high m_lot m_taped m_latest m_length m_cursor m_token m_from m_till m_fault m_faultAt m_traced r_lane r_many r_item r_market r_of r_newMarket r_newStart r_newOf r_newCoin r_state r_kept r_tape r_brings r_seen r_seenOut r_trace ++ R) (u_37.2.2.2.2 + u_37.2.2.1)) (va_cwS 1 hts gX11_diesAt_X11_size rfl rfl rfl (by decide +kernel) ⟨Nat.le_of_ble_eq_true rfl, Nat.le_of_ble_eq_true rfl⟩) pF0_ok trivial hK hP hD hS hA rfl hl.1 rfl (Nat.le_of_ble_eq_true rfl) dX11_diesAt_299 ⟨Nat.le_refl _, Nat.le_refl _⟩ (fun u_40 H locs eu_40 hP hD hS => ?_)
  refine W.eq (g2 := F0 m 302 ls [.long u_40]) rfl ?_
  have hP : va_P D vwCl (mdW Y cI m_thrown m_status m_isThere m_kinds m_newKinds m_print m_low m_high m_lot m_taped m_latest m_length m_cursor m_token m_from m_till m_fault m_faultAt m_traced r_lane r_many r_item r_market r_of r_newMarket r_newStart r_newOf r_newCoin r_state r_kept r_tape r_brings r_seen r_seenOut r_trace ++ R) H := hP
  have hD : va_D A (mdW Y cI m_thrown m_status m_isThere m_kinds m_newKinds m_print m_low m_high m_lot m_taped m_latest m_length m_cursor m_token m_from m_till m_fault m_faultAt m_traced r_lane r_many r_item r_market r_of r_newMarket r_newStart r_newOf r_newCoin r_state r_kept r_tape r_brings r_seen r_seenOut r_trace ++ R) := hD
  refine lv_lload hx hb dX11_diesAt_302 (lv_at hl 1 rfl) ?_
  refine lv_lload hx hb dX11_diesAt_304 (lv_at hl 3 rfl) ?_
  refine lv_ladd hx hb dX11_diesAt_306 ?_
  refine mx_callS (As := [.long u_40, .long (u_37.2.1 + u_37.2.2.2.1)]) (rest := []) ⟨hx, hb, hml, hown, hts⟩ (mtX11_side l D cI cB cK cS (mdW Y cI m_thrown m_status m_isThere m_kinds m_newKinds m_print m_low m_high m_lot m_taped m_latest m_length m_cursor m_token m_from m_till m_fault m_faultAt m_traced r_lane r_many r_item r_market r_of r_newMarket r_newStart r_newOf r_newCoin r_state r_kept r_tape r_brings r_seen r_seenOut r_trace ++ R) u_40 (u_37.2.1 + u_37.2.2.2.1)) (va_cwS 2 hts gX11_diesAt_X11_side rfl rfl rfl (by decide +kernel) ⟨Nat.le_of_ble_eq_true rfl, Nat.le_of_ble_eq_true rfl⟩) pF0_ok trivial hK hP hD hS hA rfl hl.1 rfl (Nat.le_of_ble_eq_true rfl) dX11_diesAt_307 ⟨Nat.le_refl _, Nat.le_refl _⟩ (fun u_41 H locs eu_41 hP hD hS => ?_)
  refine W.eq (g2 := F0 m 310 ls [.int u_41]) rfl ?_
  have hP : va_P D vwCl (mdW Y cI m_thrown m_status m_isThere m_kinds m_newKinds m_print m_low m_high m_lot m_taped m_latest m_length m_cursor m_token m_from m_till m_fault m_faultAt m_traced r_lane r_many r_item r_market r_of r_newMarket r_newStart r_newOf r_newCoin r_state r_kept r_tape r_brings r_seen r_seenOut r_trace ++ R) H := hP
  have hD : va_D A (mdW Y cI m_thrown m_status m_isThere m_kinds m_newKinds m_print m_low m_high m_lot m_taped m_latest m_length m_cursor m_token m_from m_till m_fault m_faultAt m_traced r_lane r_many r_item r_market r_of r_newMarket r_newStart r_newOf r_newCoin r_state r_kept r_tape r_brings r_seen r_seenOut r_trace ++ R) := hD
  refine lv_istore (lv' := [(11, .int u_41), (10, .int u_39), (8, .long u_37.2.1), (6, .long u_37.2.2.1), (4, .long u_37.2.2.2.1), (2, .long u_37.2.2.2.2)]) hx hb dX11_diesAt_310 hl (by decide) rfl (fun ls hl => ?_)
  refine lv_lload hx hb dX11_diesAt_312 (lv_at hl 4 rfl) ?_
  refine lv_lload hx hb dX11_diesAt_314 (lv_at hl 2 rfl) ?_
  refine lv_lmul hx hb dX11_diesAt_316 ?_
  refine lv_lload_n hx hb dX11_diesAt_317 rfl (lv_at hl 5 rfl) ?_
  refine lv_lload hx hb dX11_diesAt_318 (lv_at hl 3 rfl) ?_
  refine lv_lmul hx hb dX11_diesAt_320 ?_
  refine lv_lsub hx hb dX11_diesAt_321 ?_
  refine mx_callS (As := [.long ((u_37.2.2.2.1 * u_37.2.1) - (u_37.2.2.2.2 * u_37.2.2.1))]) (rest := []) ⟨hx, hb, hml, hown, hts⟩ (mtX11_size l D cI cB cK cS (mdW Y cI m_thrown m_status m_isThere m_kinds m_newKinds m_print m_low m_high m_lot m_taped m_latest m_length m_cursor m_token m_from m_till m_fault m_faultAt m_traced r_lane r_many r_item r_market r_of r_newMarket r_newStart r_newOf r_newCoin r_state r_kept r_tape r_brings r_seen r_seenOut r_trace ++ R) ((u_37.2.2.2.1 * u_37.2.1) - (u_37.2.2.2.2 * u_37.2.2.1))) (va_cwS 1 hts gX11_diesAt_X11_size rfl rfl rfl (by decide +kernel) ⟨Nat.le_of_ble_eq_true rfl, Nat.le_of_ble_eq_true rfl⟩) pF0_ok trivial hK hP hD hS hA rfl hl.1 rfl (Nat.le_of_ble_eq_true rfl) dX11_diesAt_322 ⟨Nat.le_refl _, Nat.le_refl _⟩ (fun u_42 H locs eu_42 hP hD hS => ?_)
  refine W.eq (g2 := F0 m 325 ls [.long u_42]) rfl ?_
  have hP : va_P D vwCl (mdW Y cI m_thrown m_status m_isThere m_kinds m_newKinds m_print m_low m_high m_lot m_taped m_latest m_length m_cursor m_token m_from m_till m_fault m_faultAt m_traced r_lane r_many r_item r_market r_of r_newMarket r_newStart r_newOf r_newCoin r_state r_kept r_tape r_brings r_seen r_seenOut r_trace ++ R) H := hP
  have hD : va_D A (mdW Y cI m_thrown m_status m_isThere m_kinds m_newKinds m_print m_low m_high m_lot m_taped m_latest m_length m_cursor m_token m_from m_till m_fault m_faultAt m_traced r_lane r_many r_item r_market r_of r_newMarket r_newStart r_newOf r_newCoin r_state r_kept r_tape r_brings r_seen r_seenOut r_trace ++ R) := hD
  refine lv_lload hx hb dX11_diesAt_325 (lv_at hl 2 rfl) ?_
  refine lv_lload hx hb dX11_diesAt_327 (lv_at hl 2 rfl) ?_
  refine lv_lmul hx hb dX11_diesAt_329 ?_
  refine lv_lload hx hb dX11_diesAt_330 (lv_at hl 3 rfl) ?_
  refine lv_lload hx hb dX11_diesAt_332 (lv_at hl 3 rfl) ?_
  refine lv_lmul hx hb dX11_diesAt_334 ?_
  refine lv_lsub hx hb dX11_diesAt_335 ?_
  refine mx_callS (As := [.long u_42, .long ((u_37.2.1 * u_37.2.1) - (u_37.2.2.1 * u_37.2.2.1))]) (rest := []) ⟨hx, hb, hml, hown, hts⟩ (mtX11_side l D cI cB cK cS (mdW Y cI m_thrown m_status m_isThere m_kinds m_newKinds m_print m_low m_high m_lot m_taped m_latest m_length m_cursor m_token m_from m_till m_fault m_faultAt m_traced r_lane r_many r_item r_market r_of r_newMarket r_newStart r_newOf r_newCoin r_state r_kept r_tape r_brings r_seen r_seenOut r_trace ++ R) u_42 ((u_37.2.1 * u_37.2.1) - (u_37.2.2.1 * u_37.2.2.1))) (va_cwS 2 hts gX11_diesAt_X11_side rfl rfl rfl (by decide +kernel) ⟨Nat.le_of_ble_eq_true rfl, Nat.le_of_ble_eq_true rfl⟩) pF0_ok trivial hK hP hD hS hA rfl hl.1 rfl (Nat.le_of_ble_eq_true rfl) dX11_diesAt_336 ⟨Nat.le_refl _, Nat.le_refl _⟩ (fun u_43 H locs eu_43 hP hD hS => ?_)
  refine W.eq (g2 := F0 m 339 ls [.int u_43]) rfl ?_
  have hP : va_P D vwCl (mdW Y cI m_thrown m_status m_isThere m_kinds m_newKinds m_print m_low m_high m_lot m_taped m_latest m_length m_cursor m_token m_from m_till m_fault m_faultAt m_traced r_lane r_many r_item r_market r_of r_newMarket r_newStart r_newOf r_newCoin r_state r_kept r_tape r_brings r_seen r_seenOut r_trace ++ R) H := hP
  have hD : va_D A (mdW Y cI m_thrown m_status m_isThere m_kinds m_newKinds m_print m_low m_high m_lot m_taped m_latest m_length m_cursor m_token m_from m_till m_fault m_faultAt m_traced r_lane r_many r_item r_market r_of r_newMarket r_newStart r_newOf r_newCoin r_state r_kept r_tape r_brings r_seen r_seenOut r_trace ++ R) := hD
  refine lv_istore (lv' := [(12, .int u_43), (11, .int u_41), (10, .int u_39), (8, .long u_37.2.1), (6, .long u_37.2.2.1), (4, .long u_37.2.2.2.1), (2, .long u_37.2.2.2.2)]) hx hb dX11_diesAt_339 hl (by decide) rfl (fun ls hl => ?_)
  refine lv_iload hx hb dX11_diesAt_341 (lv_at hl 2 rfl) ?_
  refine lv_if_gt (tgt := 356) hx hb dX11_diesAt_343 (by decide) (fun c_44 => ?_) (fun c_44 => ?_)
  · have d_44 := i_lt (show (0 : Int32).toInt = 0 from by decide) rfl c_44
    refine lv_iconst (v := 2) hx hb dX11_diesAt_356 (by decide) ?_
    refine lv_goto (tgt := 380) hx hb dX11_diesAt_357 (by decide) ?_
    rw [hQm]
    exact mx_iret (u0 := sX11_diesAt g m_kinds r_of r_state) (rv := (fun u => some (.int u))) (w1 := (fun _ => mdW Y cI m_thrown m_status m_isThere m_kinds m_newKinds m_print m_low m_high m_lot m_taped m_latest m_length m_cursor m_token m_from m_till m_fault m_faultAt m_traced r_lane r_many r_item r_market r_of r_newMarket r_newStart r_newOf r_newCoin r_state r_kept r_tape r_brings r_seen r_seenOut r_trace ++ R)) (u := (2)) hx hb hr hlocks hK hS (lt_eq ex_1 (lt_eq eu_37 (lt_eq eu_38 (lt_eq eu_39 (lt_eq eu_40 (lt_eq eu_41 (lt_eq eu_42 (lt_eq eu_43 ((if_pos c_44).trans rfl))))))))) hP hD rfl dX11_diesAt_380
  · have d_44 := i_ltn (show (0 : Int32).toInt = 0 from by decide) rfl c_44
    refine lv_iload hx hb dX11_diesAt_346 (lv_at hl 1 rfl) ?_
    refine lv_if_gt (tgt := 356) hx hb dX11_diesAt_348 (by decide) (fun c_45 => ?_) (fun c_45 => ?_)
    · have d_45 := i_lt (show (0 : Int32).toInt = 0 from by decide) rfl c_45
      refine lv_iconst (v := 2) hx hb dX11_diesAt_356 (by decide) ?_
      refine lv_goto (tgt := 380) hx hb dX11_diesAt_357 (by decide) ?_
      rw [hQm]
      exact mx_iret (u0 := sX11_diesAt g m_kinds r_of r_state) (rv := (fun u => some (.int u))) (w1 := (fun _ => mdW Y cI m_thrown m_status m_isThere m_kinds m_newKinds m_print m_low m_high m_lot m_taped m_latest m_length m_cursor m_token m_from m_till m_fault m_faultAt m_traced r_lane r_many r_item r_market r_of r_newMarket r_newStart r_newOf r_newCoin r_state r_kept r_tape r_brings r_seen r_seenOut r_trace ++ R)) (u := (2)) hx hb hr hlocks hK hS (lt_eq ex_1 (lt_eq eu_37 (lt_eq eu_38 (lt_eq eu_39 (lt_eq eu_40 (lt_eq eu_41 (lt_eq eu_42 (lt_eq eu_43 ((if_neg c_44).trans ((if_pos c_45).trans rfl)))))))))) hP hD rfl dX11_diesAt_380
    · have d_45 := i_ltn (show (0 : Int32).toInt = 0 from by decide) rfl c_45
      refine lv_iload hx hb dX11_diesAt_351 (lv_at hl 0 rfl) ?_
      refine lv_if_le (tgt := 360) hx hb dX11_diesAt_353 (by decide) (fun c_46 => ?_) (fun c_46 => ?_)
      · have d_46 := i_le rfl (show (0 : Int32).toInt = 0 from by decide) c_46
        refine lv_iload hx hb dX11_diesAt_360 (lv_at hl 2 rfl) ?_
        refine lv_if_ge (tgt := 379) hx hb dX11_diesAt_362 (by decide) (fun c_47 => ?_) (fun c_47 => ?_)
        · have d_47 := i_le (show (0 : Int32).toInt = 0 from by decide) rfl c_47
          refine lv_iconst (v := 1) hx hb dX11_diesAt_379 (by decide) ?_
          rw [hQm]
          exact mx_iret (u0 := sX11_diesAt g m_kinds r_of r_state) (rv := (fun u => some (.int u))) (w1 := (fun _ => mdW Y cI m_thrown m_status m_isThere m_kinds m_newKinds m_print m_low m_high m_lot m_taped m_latest m_length m_cursor m_token m_from m_till m_fault m_faultAt m_traced r_lane r_many r_item r_market r_of r_newMarket r_newStart r_newOf r_newCoin r_state r_kept r_tape r_brings r_seen r_seenOut r_trace ++ R)) (u := (1)) hx hb hr hlocks hK hS (lt_eq ex_1 (lt_eq eu_37 (lt_eq eu_38 (lt_eq eu_39 (lt_eq eu_40 (lt_eq eu_41 (lt_eq eu_42 (lt_eq eu_43 ((if_neg c_44).trans ((if_neg c_45).trans ((if_pos c_46).trans ((if_pos c_47).trans rfl)))))))))))) hP hD rfl dX11_diesAt_380
        · have d_47 := i_len (show (0 : Int32).toInt = 0 from by decide) rfl c_47
          refine lv_iload hx hb dX11_diesAt_365 (lv_at hl 1 rfl) ?_
          refine lv_if_ge (tgt := 379) hx hb dX11_diesAt_367 (by decide) (fun c_48 => ?_) (fun c_48 => ?_)
          · have d_48 := i_le (show (0 : Int32).toInt = 0 from by decide) rfl c_48
            refine lv_iconst (v := 1) hx hb dX11_diesAt_379 (by decide) ?_
            rw [hQm]
            exact mx_iret (u0 := sX11_diesAt g m_kinds r_of r_state) (rv := (fun u => some (.int u))) (w1 := (fun _ => mdW Y cI m_thrown m_status m_isThere m_kinds m_newKinds m_print m_low m_high m_lot m_taped m_latest m_length m_cursor m_token m_from m_till m_fault m_faultAt m_traced r_lane r_many r_item r_market r_of r_newMarket r_newStart r_newOf r_newCoin r_state r_kept r_tape r_brings r_seen r_seenOut r_trace ++ R)) (u := (1)) hx hb hr hlocks hK hS (lt_eq ex_1 (lt_eq eu_37 (lt_eq eu_38 (lt_eq eu_39 (lt_eq eu_40 (lt_eq eu_41 (lt_eq eu_42 (lt_eq eu_43 ((if_neg c_44).trans ((if_neg c_45).trans ((if_pos c_46).trans ((if_neg c_47).trans ((if_pos c_48).trans rfl))))))))))))) hP hD rfl dX11_diesAt_380
          · have d_48 := i_len (show (0 : Int32).toInt = 0 from by decide) rfl c_48
            refine lv_iload hx hb dX11_diesAt_370 (lv_at hl 0 rfl) ?_
            refine lv_if_ge (tgt := 379) hx hb dX11_diesAt_372 (by decide) (fun c_49 => ?_) (fun c_49 => ?_)
            · have d_49 := i_le (show (0 : Int32).toInt = 0 from by decide) rfl c_49
              refine lv_iconst (v := 1) hx hb dX11_diesAt_379 (by decide) ?_
              rw [hQm]
              exact mx_iret (u0 := sX11_diesAt g m_kinds r_of r_state) (rv := (fun u => some (.int u))) (w1 := (fun _ => mdW Y cI m_thrown m_status m_isThere m_kinds m_newKinds m_print m_low m_high m_lot m_taped m_latest m_length m_cursor m_token m_from m_till m_fault m_faultAt m_traced r_lane r_many r_item r_market r_of r_newMarket r_newStart r_newOf r_newCoin r_state r_kept r_tape r_brings r_seen r_seenOut r_trace ++ R)) (u := (1)) hx hb hr hlocks hK hS (lt_eq ex_1 (lt_eq eu_37 (lt_eq eu_38 (lt_eq eu_39 (lt_eq eu_40 (lt_eq eu_41 (lt_eq eu_42 (lt_eq eu_43 ((if_neg c_44).trans ((if_neg c_45).trans ((if_pos c_46).trans ((if_neg c_47).trans ((if_neg c_48).trans ((if_pos c_49).trans rfl)))))))))))))) hP hD rfl dX11_diesAt_380
            · have d_49 := i_len (show (0 : Int32).toInt = 0 from by decide) rfl c_49
              refine lv_iconst (v := 0) hx hb dX11_diesAt_375 (by decide) ?_
              refine lv_goto (tgt := 380) hx hb dX11_diesAt_376 (by decide) ?_
              rw [hQm]
              exact mx_iret (u0 := sX11_diesAt g m_kinds r_of r_state) (rv := (fun u => some (.int u))) (w1 := (fun _ => mdW Y cI m_thrown m_status m_isThere m_kinds m_newKinds m_print m_low m_high m_lot m_taped m_latest m_length m_cursor m_token m_from m_till m_fault m_faultAt m_traced r_lane r_many r_item r_market r_of r_newMarket r_newStart r_newOf r_newCoin r_state r_kept r_tape r_brings r_seen r_seenOut r_trace ++ R)) (u := (0)) hx hb hr hlocks hK hS (lt_eq ex_1 (lt_eq eu_37 (lt_eq eu_38 (lt_eq eu_39 (lt_eq eu_40 (lt_eq eu_41 (lt_eq eu_42 (lt_eq eu_43 ((if_neg c_44).trans ((if_neg c_45).trans ((if_pos c_46).trans ((if_neg c_47).trans ((if_neg c_48).trans ((if_neg c_49).trans rfl)))))))))))))) hP hD rfl dX11_diesAt_380
      · have d_46 := i_len rfl (show (0 : Int32).toInt = 0 from by decide) c_46
        refine lv_iconst (v := 2) hx hb dX11_diesAt_356 (by decide) ?_
        refine lv_goto (tgt := 380) hx hb dX11_diesAt_357 (by decide) ?_
        rw [hQm]
        exact mx_iret (u0 := sX11_diesAt g m_kinds r_of r_state) (rv := (fun u => some (.int u))) (w1 := (fun _ => mdW Y cI m_thrown m_status m_isThere m_kinds m_newKinds m_print m_low m_high m_lot m_taped m_latest m_length m_cursor m_token m_from m_till m_fault m_faultAt m_traced r_lane r_many r_item r_market r_of r_newMarket r_newStart r_newOf r_newCoin r_state r_kept r_tape r_brings r_seen r_seenOut r_trace ++ R)) (u := (2)) hx hb hr hlocks hK hS (lt_eq ex_1 (lt_eq eu_37 (lt_eq eu_38 (lt_eq eu_39 (lt_eq eu_40 (lt_eq eu_41 (lt_eq eu_42 (lt_eq eu_43 ((if_neg c_44).trans ((if_neg c_45).trans ((if_neg c_46).trans rfl))))))))))) hP hD rfl dX11_diesAt_380

def sX11_dies (m_isThere : Int32) (m_kinds : Int32) (r_market : Nat → Int32) (r_of : Nat → Int32) (r_state : Nat → Int32) : Int32 × (Int32) := if m_isThere = 0 then (((-1000002), 0)) else (lt (sX11_diesAt (r_market 1) m_kinds r_of r_state) (fun u_3 : Int32 => (u_3, 0)))
set_option maxHeartbeats 4000000 in
set_option maxRecDepth 100000 in
theorem mtX11_dies (l : Launch) (D : va_G) (cI cB cK cS : ClassId) (Y : Nat → Nat) (R : va_W) (m_thrown : Int32) (m_status : Int32) (m_isThere : Int32) (m_kinds : Int32) (m_newKinds : Int32) (m_print : Int32) (m_low : Int32) (m_high : Int32) (m_lot : Int32) (m_taped : Int32) (m_latest : Int32) (m_length : Int32) (m_cursor : Int32) (m_token : Int32) (m_from : Int32) (m_till : Int32) (m_fault : Int32) (m_faultAt : Int32) (m_traced : Int32) (r_lane : Nat → Int32) (r_many : Nat → Int32) (r_item : Nat → Int32) (r_market : Nat → Int32) (r_of : Nat → Int32) (r_newMarket : Nat → Int32) (r_newStart : Nat → Int32) (r_newOf : Nat → Int32) (r_newCoin : Nat → Int32) (r_state : Nat → Int32) (r_kept : Nat → Int32) (r_tape : Nat → Int32) (r_brings : Nat → Int32) (r_seen : Nat → Int32) (r_seenOut : Nat → Int32) (r_trace : Nat → Int32) (hkd : m_kinds.toInt ≤ 5) (hby : ∀ k : Int32, 0 ≤ k.toInt → k.toInt < m_kinds.toInt → sX11_told k 0 r_of = 2 → ¬ sX11_told k 1 r_of = 0) : MX l yX11_dies wsX11_dies (rmX 3) D (tyX cI cB cK cS) pF0 (mdW Y cI m_thrown m_status m_isThere m_kinds m_newKinds m_print m_low m_high m_lot m_taped m_latest m_length m_cursor m_token m_from m_till m_fault m_faultAt m_traced r_lane r_many r_item r_market r_of r_newMarket r_newStart r_newOf r_newCoin r_state r_kept r_tape r_brings r_seen r_seenOut r_trace ++ R) [.ref (Y 0)] (sX11_dies m_isThere m_kinds r_market r_of r_state) (fun u => some (.int u.1)) (fun u => mdW Y cI u.2 m_status m_isThere m_kinds m_newKinds m_print m_low m_high m_lot m_taped m_latest m_length m_cursor m_token m_from m_till m_fault m_faultAt m_traced r_lane r_many r_item r_market r_of r_newMarket r_newStart r_newOf r_newCoin r_state r_kept r_tape r_brings r_seen r_seenOut r_trace ++ R) := by
  refine mx_intro (cc := cX11_dies) (maxL := 1) (ret := (some .int)) (by decide) rfl (Nat.le_of_ble_eq_true rfl) ?_
  intro p e s m below meth c A ls H locs Qm hQm hx hb hr hml hts hown hlocks hA hS hP hK hD hF hl
  have hown : s.vm.findClass RX11 = some m.cls := hown
  have hl : lv_has ls 1 [(0, .ref (Y 0))] := hl
  have k58 := hts (.fieldLink RX11 58 "PigRoundsModel" "thrown" "I") (by decide +kernel)
  have k176 := hts (.fieldLink RX11 176 "PigRoundsModel" "isThere" "Z") (by decide +kernel)
  have k231 := hts (.constant RX11 231 (-1000002)) (by decide +kernel)
  have k19 := hts (.fieldLink RX11 19 "PigRoundsModel" "market" "[I") (by decide +kernel)
  have iX11 : ∀ w ∈ u_ws RX11 TX11 35, w ∈ wsX11_dies := by decide +kernel
  refine lv_aload_n hx hb dX11_dies_0 rfl (lv_at hl 0 rfl) ?_
  refine lv_iconst (v := 0) hx hb dX11_dies_1 (by decide) ?_
  refine va_put (D := D) (ci := 9) (v := .int 0) (ty := .int) (C := RX11) (T := TX11) (N := 35) hx hb hts iX11 tyX11 tyX11_ok nmX11 hown hK hP hD hS 0 rfl rfl 0 (by decide) k58 (fun _ h9 => h9) rfl (by decide +kernel) rfl rfl (Nat.le_of_ble_eq_true rfl) dX11_dies_2 (fun H locs hP hD hS => ?_)
  have hP : va_P D vwCl (mdW Y cI 0 m_status m_isThere m_kinds m_newKinds m_print m_low m_high m_lot m_taped m_latest m_length m_cursor m_token m_from m_till m_fault m_faultAt m_traced r_lane r_many r_item r_market r_of r_newMarket r_newStart r_newOf r_newCoin r_state r_kept r_tape r_brings r_seen r_seenOut r_trace ++ R) H := hP
  have hD : va_D A (mdW Y cI 0 m_status m_isThere m_kinds m_newKinds m_print m_low m_high m_lot m_taped m_latest m_length m_cursor m_token m_from m_till m_fault m_faultAt m_traced r_lane r_many r_item r_market r_of r_newMarket r_newStart r_newOf r_newCoin r_state r_kept r_tape r_brings r_seen r_seenOut r_trace ++ R) := hD
  refine lv_aload_n hx hb dX11_dies_5 rfl (lv_at hl 0 rfl) ?_
  refine va_get (D := D) (ci := 9) (v := .int m_isThere) (C := RX11) (T := TX11) (N := 35) hx hb hts iX11 hown hK hP 0 rfl rfl 5 (by decide) k176 (fun _ h9 => h9) rfl dX11_dies_6 ?_
  refine lv_if_eq (tgt := 25) hx hb dX11_dies_9 (by decide) (fun c_1 => ?_) (fun c_1 => ?_)
  · have d_1 := i_eq rfl (show (0 : Int32).toInt = 0 from by decide) c_1
    refine lv_ldc (v := (-1000002)) hx hb hown k231 dX11_dies_25 ?_
    rw [hQm]
    exact mx_iret (u0 := sX11_dies m_isThere m_kinds r_market r_of r_state) (rv := (fun u => some (.int u.1))) (w1 := (fun u => mdW Y cI u.2 m_status m_isThere m_kinds m_newKinds m_print m_low m_high m_lot m_taped m_latest m_length m_cursor m_token m_from m_till m_fault m_faultAt m_traced r_lane r_many r_item r_market r_of r_newMarket r_newStart r_newOf r_newCoin r_state r_kept r_tape r_brings r_seen r_seenOut r_trace ++ R)) (u := ((-1000002), 0)) hx hb hr hlocks hK hS ((if_pos c_1).trans rfl) hP hD rfl dX11_dies_27
  · have d_1 := i_eqn rfl (show (0 : Int32).toInt = 0 from by decide) c_1
    refine lv_aload_n hx hb dX11_dies_12 rfl (lv_at hl 0 rfl) ?_
    refine lv_aload_n hx hb dX11_dies_13 rfl (lv_at hl 0 rfl) ?_
    refine va_get (D := D) (ci := 9) (v := .ref (Y 7)) (C := RX11) (T := TX11) (N := 35) hx hb hts iX11 hown hK hP 0 rfl rfl 7 (by decide) k19 (fun _ h9 => h9) rfl dX11_dies_14 ?_
    refine lv_iconst (v := 1) hx hb dX11_dies_17 (by decide) ?_
    have q_2 : vp_in (1 : Int32) 3 := vp_in_iff.mpr (by decide)
    refine va_iald hx hb hK hP 4 0 rfl rfl q_2 dX11_dies_18 ?_
    refine W.eq (g2 := F0 m 19 ls [.int (r_market 1), .ref (Y 0)]) rfl ?_
    refine mx_callV (As := [.int (r_market 1)]) (rest := []) ⟨hx, hb, hml, hown, hts⟩ (mtX11_diesAt l D cI cB cK cS Y R 0 m_status m_isThere m_kinds m_newKinds m_print m_low m_high m_lot m_taped m_latest m_length m_cursor m_token m_from m_till m_fault m_faultAt m_traced r_lane r_many r_item r_market r_of r_newMarket r_newStart r_newOf r_newCoin r_state r_kept r_tape r_brings r_seen r_seenOut r_trace (r_market 1) hkd hby) (cwV 1 hts gX11_dies_X11_diesAt rfl rfl rfl (by decide +kernel) ⟨Nat.le_of_ble_eq_true rfl, Nat.le_of_ble_eq_true rfl⟩) pF0_ok trivial hK hP hD hS hA 0 rfl rfl rfl rfl hl.1 rfl (Nat.le_of_ble_eq_true rfl) dX11_dies_19 ⟨Nat.le_refl _, Nat.le_refl _⟩ (fun u_3 H locs eu_3 hP hD hS => ?_)
    refine W.eq (g2 := F0 m 22 ls [.int u_3]) rfl ?_
    have hP : va_P D vwCl (mdW Y cI 0 m_status m_isThere m_kinds m_newKinds m_print m_low m_high m_lot m_taped m_latest m_length m_cursor m_token m_from m_till m_fault m_faultAt m_traced r_lane r_many r_item r_market r_of r_newMarket r_newStart r_newOf r_newCoin r_state r_kept r_tape r_brings r_seen r_seenOut r_trace ++ R) H := hP
    have hD : va_D A (mdW Y cI 0 m_status m_isThere m_kinds m_newKinds m_print m_low m_high m_lot m_taped m_latest m_length m_cursor m_token m_from m_till m_fault m_faultAt m_traced r_lane r_many r_item r_market r_of r_newMarket r_newStart r_newOf r_newCoin r_state r_kept r_tape r_brings r_seen r_seenOut r_trace ++ R) := hD
    refine lv_goto (tgt := 27) hx hb dX11_dies_22 (by decide) ?_
    rw [hQm]
    exact mx_iret (u0 := sX11_dies m_isThere m_kinds r_market r_of r_state) (rv := (fun u => some (.int u.1))) (w1 := (fun u => mdW Y cI u.2 m_status m_isThere m_kinds m_newKinds m_print m_low m_high m_lot m_taped m_latest m_length m_cursor m_token m_from m_till m_fault m_faultAt m_traced r_lane r_many r_item r_market r_of r_newMarket r_newStart r_newOf r_newCoin r_state r_kept r_tape r_brings r_seen r_seenOut r_trace ++ R)) (u := (u_3, 0)) hx hb hr hlocks hK hS ((if_neg c_1).trans (lt_eq eu_3 rfl)) hP hD rfl dX11_dies_27

def lX11_steep_17 (m_kinds : Int32) (r_of : Nat → Int32) (r_state : Nat → Int32) : Nat → Int32 → Int32 × (Int32)
  | 0, x1_17 => (0, 0)
  | n + 1, x1_17 => if 21 ≤ x1_17 then (((-1000000), 0)) else (lt (sX11_diesAt x1_17 m_kinds r_of r_state) (fun u_3 : Int32 => if u_3 = 0 then ((x1_17, 0)) else (lt (x1_17 + 1) (fun x_5 : Int32 => lX11_steep_17 m_kinds r_of r_state n x_5))))

def sX11_steep (m_isThere : Int32) (m_kinds : Int32) (r_of : Nat → Int32) (r_state : Nat → Int32) : Int32 × (Int32) := if m_isThere = 0 then (((-1000002), 0)) else (lX11_steep_17 m_kinds r_of r_state 22 1)
set_option maxHeartbeats 4000000 in
set_option maxRecDepth 100000 in
theorem mtX11_steep (l : Launch) (D : va_G) (cI cB cK cS : ClassId) (Y : Nat → Nat) (R : va_W) (m_thrown : Int32) (m_status : Int32) (m_isThere : Int32) (m_kinds : Int32) (m_newKinds : Int32) (m_print : Int32) (m_low : Int32) (m_high : Int32) (m_lot : Int32) (m_taped : Int32) (m_latest : Int32) (m_length : Int32) (m_cursor : Int32) (m_token : Int32) (m_from : Int32) (m_till : Int32) (m_fault : Int32) (m_faultAt : Int32) (m_traced : Int32) (r_lane : Nat → Int32) (r_many : Nat → Int32) (r_item : Nat → Int32) (r_market : Nat → Int32) (r_of : Nat → Int32) (r_newMarket : Nat → Int32) (r_newStart : Nat → Int32) (r_newOf : Nat → Int32) (r_newCoin : Nat → Int32) (r_state : Nat → Int32) (r_kept : Nat → Int32) (r_tape : Nat → Int32) (r_brings : Nat → Int32) (r_seen : Nat → Int32) (r_seenOut : Nat → Int32) (r_trace : Nat → Int32) (hkd : m_kinds.toInt ≤ 5) (hby : ∀ k : Int32, 0 ≤ k.toInt → k.toInt < m_kinds.toInt → sX11_told k 0 r_of = 2 → ¬ sX11_told k 1 r_of = 0) : MX l yX11_steep wsX11_steep (rmX 3) D (tyX cI cB cK cS) pF0 (mdW Y cI m_thrown m_status m_isThere m_kinds m_newKinds m_print m_low m_high m_lot m_taped m_latest m_length m_cursor m_token m_from m_till m_fault m_faultAt m_traced r_lane r_many r_item r_market r_of r_newMarket r_newStart r_newOf r_newCoin r_state r_kept r_tape r_brings r_seen r_seenOut r_trace ++ R) [.ref (Y 0)] (sX11_steep m_isThere m_kinds r_of r_state) (fun u => some (.int u.1)) (fun u => mdW Y cI u.2 m_status m_isThere m_kinds m_newKinds m_print m_low m_high m_lot m_taped m_latest m_length m_cursor m_token m_from m_till m_fault m_faultAt m_traced r_lane r_many r_item r_market r_of r_newMarket r_newStart r_newOf r_newCoin r_state r_kept r_tape r_brings r_seen r_seenOut r_trace ++ R) := by
  refine mx_intro (cc := cX11_steep) (maxL := 2) (ret := (some .int)) (by decide) rfl (Nat.le_of_ble_eq_true rfl) ?_
  intro p e s m below meth c A ls H locs Qm hQm hx hb hr hml hts hown hlocks hA hS hP hK hD hF hl
  have hown : s.vm.findClass RX11 = some m.cls := hown
  have hl : lv_has ls 2 [(0, .ref (Y 0))] := hl
  have k58 := hts (.fieldLink RX11 58 "PigRoundsModel" "thrown" "I") (by decide +kernel)
  have k176 := hts (.fieldLink RX11 176 "PigRoundsModel" "isThere" "Z") (by decide +kernel)
  have k94 := hts (.constant RX11 94 (-1000000)) (by decide +kernel)
  have k231 := hts (.constant RX11 231 (-1000002)) (by decide +kernel)
  have iX11 : ∀ w ∈ u_ws RX11 TX11 35, w ∈ wsX11_steep := by decide +kernel
  refine lv_aload_n hx hb dX11_steep_0 rfl (lv_at hl 0 rfl) ?_
  refine lv_iconst (v := 0) hx hb dX11_steep_1 (by decide) ?_
  refine va_put (D := D) (ci := 9) (v := .int 0) (ty := .int) (C := RX11) (T := TX11) (N := 35) hx hb hts iX11 tyX11 tyX11_ok nmX11 hown hK hP hD hS 0 rfl rfl 0 (by decide) k58 (fun _ h9 => h9) rfl (by decide +kernel) rfl rfl (Nat.le_of_ble_eq_true rfl) dX11_steep_2 (fun H locs hP hD hS => ?_)
  have hP : va_P D vwCl (mdW Y cI 0 m_status m_isThere m_kinds m_newKinds m_print m_low m_high m_lot m_taped m_latest m_length m_cursor m_token m_from m_till m_fault m_faultAt m_traced r_lane r_many r_item r_market r_of r_newMarket r_newStart r_newOf r_newCoin r_state r_kept r_tape r_brings r_seen r_seenOut r_trace ++ R) H := hP
  have hD : va_D A (mdW Y cI 0 m_status m_isThere m_kinds m_newKinds m_print m_low m_high m_lot m_taped m_latest m_length m_cursor m_token m_from m_till m_fault m_faultAt m_traced r_lane r_many r_item r_market r_of r_newMarket r_newStart r_newOf r_newCoin r_state r_kept r_tape r_brings r_seen r_seenOut r_trace ++ R) := hD
  refine lv_aload_n hx hb dX11_steep_5 rfl (lv_at hl 0 rfl) ?_
  refine va_get (D := D) (ci := 9) (v := .int m_isThere) (C := RX11) (T := TX11) (N := 35) hx hb hts iX11 hown hK hP 0 rfl rfl 5 (by decide) k176 (fun _ h9 => h9) rfl dX11_steep_6 ?_
  refine lv_if_ne (tgt := 15) hx hb dX11_steep_9 (by decide) (fun c_1 => ?_) (fun c_1 => ?_)
  · have d_1 := i_eqn rfl (show (0 : Int32).toInt = 0 from by decide) c_1
    refine lv_iconst (v := 1) hx hb dX11_steep_15 (by decide) ?_
    refine lv_istore_n (lv' := [(1, .int 1), (0, .ref (Y 0))]) hx hb dX11_steep_16 rfl hl (by decide) rfl (fun ls hl => ?_)
    have L_17 : ∀ (n : Nat) (x1_17 : Int32) (H : Heap) (locs : List Loc) (ls : Array Slot), 0 ≤ x1_17.toInt → x1_17.toInt ≤ 21 → (21 : Int) < x1_17.toInt + ((n : Nat) : Int) → (sX11_steep m_isThere m_kinds r_of r_state = lX11_steep_17 m_kinds r_of r_state n x1_17) → va_P D vwCl (mdW Y cI 0 m_status m_isThere m_kinds m_newKinds m_print m_low m_high m_lot m_taped m_latest m_length m_cursor m_token m_from m_till m_fault m_faultAt m_traced r_lane r_many r_item r_market r_of r_newMarket r_newStart r_newOf r_newCoin r_state r_kept r_tape r_brings r_seen r_seenOut r_trace ++ R) H → va_D A (mdW Y cI 0 m_status m_isThere m_kinds m_newKinds m_print m_low m_high m_lot m_taped m_latest m_length m_cursor m_token m_from m_till m_fault m_faultAt m_traced r_lane r_many r_item r_market r_of r_newMarket r_newStart r_newOf r_newCoin r_state r_kept r_tape r_brings r_seen r_seenOut r_trace ++ R) → va_S A s.heap H locs → lv_has ls 2 [(1, .int x1_17), (0, .ref (Y 0))] → W p l e (rmX 3) s m ([.ref (Y 0)] : List Value).toArray below meth c H locs 0 0 Qm (F0 m 17 ls []) := by
      intro n
      induction n with
      | zero =>
        intro x1_17 H locs ls iv_17_0 iv_17_1 iv_17_2 hT_17 hP hD hS hl
        exfalso; omega
      | succ n ih_17 =>
        intro x1_17 H locs ls iv_17_0 iv_17_1 iv_17_2 hT_17 hP hD hS hl
        refine lv_iload_n hx hb dX11_steep_17 rfl (lv_at hl 0 rfl) ?_
        refine lv_bipush (v := 21) hx hb dX11_steep_18 (by decide) ?_
        refine lv_icmp_ge (tgt := 39) hx hb dX11_steep_20 (by decide) (fun c_2 => ?_) (fun c_2 => ?_)
        · have d_2 := i_le (show (21 : Int32).toInt = 21 from by decide) rfl c_2
          refine lv_ldc (v := (-1000000)) hx hb hown k94 dX11_steep_39 ?_
          rw [hQm]
          exact mx_iret (u0 := sX11_steep m_isThere m_kinds r_of r_state) (rv := (fun u => some (.int u.1))) (w1 := (fun u => mdW Y cI u.2 m_status m_isThere m_kinds m_newKinds m_print m_low m_high m_lot m_taped m_latest m_length m_cursor m_token m_from m_till m_fault m_faultAt m_traced r_lane r_many r_item r_market r_of r_newMarket r_newStart r_newOf r_newCoin r_state r_kept r_tape r_brings r_seen r_seenOut r_trace ++ R)) (u := ((-1000000), 0)) hx hb hr hlocks hK hS (hT_17.trans ((if_pos c_2).trans rfl)) hP hD rfl dX11_steep_41
        · have d_2 := i_len (show (21 : Int32).toInt = 21 from by decide) rfl c_2
          refine lv_aload_n hx hb dX11_steep_23 rfl (lv_at hl 1 rfl) ?_
          refine lv_iload_n hx hb dX11_steep_24 rfl (lv_at hl 0 rfl) ?_
          refine mx_callV (As := [.int x1_17]) (rest := []) ⟨hx, hb, hml, hown, hts⟩ (mtX11_diesAt l D cI cB cK cS Y R 0 m_status m_isThere m_kinds m_newKinds m_print m_low m_high m_lot m_taped m_latest m_length m_cursor m_token m_from m_till m_fault m_faultAt m_traced r_lane r_many r_item r_market r_of r_newMarket r_newStart r_newOf r_newCoin r_state r_kept r_tape r_brings r_seen r_seenOut r_trace x1_17 hkd hby) (cwV 1 hts gX11_steep_X11_diesAt rfl rfl rfl (by decide +kernel) ⟨Nat.le_of_ble_eq_true rfl, Nat.le_of_ble_eq_true rfl⟩) pF0_ok trivial hK hP hD hS hA 0 rfl rfl rfl rfl hl.1 rfl (Nat.le_of_ble_eq_true rfl) dX11_steep_25 ⟨Nat.le_refl _, Nat.le_refl _⟩ (fun u_3 H locs eu_3 hP hD hS => ?_)
          refine W.eq (g2 := F0 m 28 ls [.int u_3]) rfl ?_
          have hP : va_P D vwCl (mdW Y cI 0 m_status m_isThere m_kinds m_newKinds m_print m_low m_high m_lot m_taped m_latest m_length m_cursor m_token m_from m_till m_fault m_faultAt m_traced r_lane r_many r_item r_market r_of r_newMarket r_newStart r_newOf r_newCoin r_state r_kept r_tape r_brings r_seen r_seenOut r_trace ++ R) H := hP
          have hD : va_D A (mdW Y cI 0 m_status m_isThere m_kinds m_newKinds m_print m_low m_high m_lot m_taped m_latest m_length m_cursor m_token m_from m_till m_fault m_faultAt m_traced r_lane r_many r_item r_market r_of r_newMarket r_newStart r_newOf r_newCoin r_state r_kept r_tape r_brings r_seen r_seenOut r_trace ++ R) := hD
          refine lv_if_ne (tgt := 33) hx hb dX11_steep_28 (by decide) (fun c_4 => ?_) (fun c_4 => ?_)
          · have d_4 := i_eqn rfl (show (0 : Int32).toInt = 0 from by decide) c_4
            obtain ⟨x_5, ex_5⟩ : ∃ z : Int32, z = x1_17 + 1 := ⟨_, rfl⟩
            refine lv_iinc (v := x_5) (lv' := [(1, .int x_5), (0, .ref (Y 0))]) hx hb dX11_steep_33 hl (k := 0) rfl (by rw [ex_5]; rfl) (by decide) rfl (fun ls hl => ?_)
            refine lv_goto (tgt := 17) hx hb dX11_steep_36 (by decide) ?_
            have tx_5 : x_5.toInt = x1_17.toInt + 1 := i_inc ex_5 (by decide) (by omega) (by omega)
            exact ih_17 x_5 H locs ls (by omega) (by omega) (by omega) (hT_17.trans ((if_neg c_2).trans (lt_eq eu_3 ((if_neg c_4).trans (lt_eq ex_5 rfl))))) hP hD hS (lv_sub hl [0, 1] rfl)
          · have d_4 := i_eq rfl (show (0 : Int32).toInt = 0 from by decide) c_4
            refine lv_iload_n hx hb dX11_steep_31 rfl (lv_at hl 0 rfl) ?_
            rw [hQm]
            exact mx_iret (u0 := sX11_steep m_isThere m_kinds r_of r_state) (rv := (fun u => some (.int u.1))) (w1 := (fun u => mdW Y cI u.2 m_status m_isThere m_kinds m_newKinds m_print m_low m_high m_lot m_taped m_latest m_length m_cursor m_token m_from m_till m_fault m_faultAt m_traced r_lane r_many r_item r_market r_of r_newMarket r_newStart r_newOf r_newCoin r_state r_kept r_tape r_brings r_seen r_seenOut r_trace ++ R)) (u := (x1_17, 0)) hx hb hr hlocks hK hS (hT_17.trans ((if_neg c_2).trans (lt_eq eu_3 ((if_pos c_4).trans rfl)))) hP hD rfl dX11_steep_32
    exact L_17 22 1 H locs ls (by decide) (by decide) (by decide) ((if_neg c_1).trans rfl) hP hD hS (lv_sub hl [0, 1] rfl)
  · have d_1 := i_eq rfl (show (0 : Int32).toInt = 0 from by decide) c_1
    refine lv_ldc (v := (-1000002)) hx hb hown k231 dX11_steep_12 ?_
    rw [hQm]
    exact mx_iret (u0 := sX11_steep m_isThere m_kinds r_of r_state) (rv := (fun u => some (.int u.1))) (w1 := (fun u => mdW Y cI u.2 m_status m_isThere m_kinds m_newKinds m_print m_low m_high m_lot m_taped m_latest m_length m_cursor m_token m_from m_till m_fault m_faultAt m_traced r_lane r_many r_item r_market r_of r_newMarket r_newStart r_newOf r_newCoin r_state r_kept r_tape r_brings r_seen r_seenOut r_trace ++ R)) (u := ((-1000002), 0)) hx hb hr hlocks hK hS ((if_pos c_1).trans rfl) hP hD rfl dX11_steep_14

def lX11_calm_139 (nn : Int32) (m_kinds : Int32) (m_print : Int32) (r_market : Nat → Int32) (r_of : Nat → Int32) (m_lot_76 : Int32) (m_high_90 : Int32) (m_low_104 : Int32) : Nat → Int32 → Int32 → Int32 → (Nat → Int32) → (Nat → Int32) → Int32 × Int32 × Int32 × (Nat → Int32) × (Nat → Int32)
  | 0, x10_139, x9_139, x8_139, r_state_139, r_brings_139 => (x10_139, x9_139, x8_139, r_state_139, r_brings_139)
  | n + 1, x10_139, x9_139, x8_139, r_state_139, r_brings_139 => if nn ≤ x10_139 then ((x10_139, x9_139, x8_139, r_state_139, r_brings_139)) else (lt (sX11_year m_kinds m_print m_low_104 m_high_90 m_lot_76 r_market r_of r_state_139 r_brings_139) (fun u_15 : (Nat → Int32) × (Nat → Int32) => lt (if (u_15.1 0) ≤ x8_139 then (x8_139) else ((u_15.1 0))) (fun y_18 : Int32 => lt (if x9_139 ≤ (u_15.1 0) then (x9_139) else ((u_15.1 0))) (fun y_23 : Int32 => lt (x10_139 + 1) (fun x_26 : Int32 => lX11_calm_139 nn m_kinds m_print r_market r_of m_lot_76 m_high_90 m_low_104 n x_26 y_23 y_18 u_15.1 u_15.2)))))

def lX11_calm_104 (nn : Int32) (w : Int32) (m_kinds : Int32) (m_print : Int32) (r_market : Nat → Int32) (r_of : Nat → Int32) (u_6 : (Nat → Int32)) (m_lot_76 : Int32) (m_high_90 : Int32) : Nat → Int32 → Int32 → Int32 → (Nat → Int32) → (Nat → Int32) → Int32 × Int32 × Int32 × (Nat → Int32) × (Nat → Int32)
  | 0, x7_104, x6_104, m_low_104, r_state_104, r_brings_104 => (x7_104, x6_104, m_low_104, r_state_104, r_brings_104)
  | n + 1, x7_104, x6_104, m_low_104, r_state_104, r_brings_104 => if m_high_90 ≤ m_low_104 then ((x7_104, x6_104, m_low_104, r_state_104, r_brings_104)) else (lt (upd r_state_104 4 0) (fun ar_11 : Nat → Int32 => lt (upd ar_11 5 0) (fun ar_13 : Nat → Int32 => lt (lX11_calm_139 nn m_kinds m_print r_market r_of m_lot_76 m_high_90 m_low_104 21 0 100 0 ar_13 r_brings_104) (fun u_27 : Int32 × Int32 × Int32 × (Nat → Int32) × (Nat → Int32) => lt (if w < (u_27.2.2.1 - u_27.2.1) then ((x7_104, x6_104)) else (if x6_104 = (-1000000) then (lt (((10000 * m_lot_76) + (100 * m_high_90)) + m_low_104) (fun x_34 : Int32 => ((u_27.2.2.2.1 5), x_34))) else (if x7_104 ≤ (u_27.2.2.2.1 5) then ((x7_104, x6_104)) else (lt (((10000 * m_lot_76) + (100 * m_high_90)) + m_low_104) (fun x_38 : Int32 => ((u_27.2.2.2.1 5), x_38)))))) (fun y_31 : Int32 × Int32 => lt (sX11_comeBack u_27.2.2.2.1 u_6) (fun u_40 : (Nat → Int32) => lX11_calm_104 nn w m_kinds m_print r_market r_of u_6 m_lot_76 m_high_90 n y_31.1 y_31.2 (m_low_104 + 5) u_40 u_27.2.2.2.2))))))

def lX11_calm_90 (nn : Int32) (w : Int32) (m_kinds : Int32) (m_print : Int32) (r_market : Nat → Int32) (r_of : Nat → Int32) (u_6 : (Nat → Int32)) (m_lot_76 : Int32) : Nat → Int32 → Int32 → Int32 → Int32 → (Nat → Int32) → (Nat → Int32) → Int32 × Int32 × Int32 × Int32 × (Nat → Int32) × (Nat → Int32)
  | 0, x7_90, x6_90, m_low_90, m_high_90, r_state_90, r_brings_90 => (x7_90, x6_90, m_low_90, m_high_90, r_state_90, r_brings_90)
  | n + 1, x7_90, x6_90, m_low_90, m_high_90, r_state_90, r_brings_90 => if 51 ≤ m_high_90 then ((x7_90, x6_90, m_low_90, m_high_90, r_state_90, r_brings_90)) else (lt (lX11_calm_104 nn w m_kinds m_print r_market r_of u_6 m_lot_76 m_high_90 13 x7_90 x6_90 0 r_state_90 r_brings_90) (fun u_41 : Int32 × Int32 × Int32 × (Nat → Int32) × (Nat → Int32) => lX11_calm_90 nn w m_kinds m_print r_market r_of u_6 m_lot_76 n u_41.1 u_41.2.1 u_41.2.2.1 (m_high_90 + 5) u_41.2.2.2.1 u_41.2.2.2.2))

def lX11_calm_76 (nn : Int32) (w : Int32) (m_kinds : Int32) (m_print : Int32) (r_market : Nat → Int32) (r_of : Nat → Int32) (u_6 : (Nat → Int32)) : Nat → Int32 → Int32 → Int32 → Int32 → Int32 → (Nat → Int32) → (Nat → Int32) → Int32 × Int32 × Int32 × Int32 × Int32 × (Nat → Int32) × (Nat → Int32)
  | 0, x7_76, x6_76, m_low_76, m_high_76, m_lot_76, r_state_76, r_brings_76 => (x7_76, x6_76, m_low_76, m_high_76, m_lot_76, r_state_76, r_brings_76)
  | n + 1, x7_76, x6_76, m_low_76, m_high_76, m_lot_76, r_state_76, r_brings_76 => if 31 ≤ m_lot_76 then ((x7_76, x6_76, m_low_76, m_high_76, m_lot_76, r_state_76, r_brings_76)) else (lt (lX11_calm_90 nn w m_kinds m_print r_market r_of u_6 m_lot_76 11 x7_76 x6_76 m_low_76 5 r_state_76 r_brings_76) (fun u_42 : Int32 × Int32 × Int32 × Int32 × (Nat → Int32) × (Nat → Int32) => lX11_calm_76 nn w m_kinds m_print r_market r_of u_6 n u_42.1 u_42.2.1 u_42.2.2.1 u_42.2.2.2.1 (m_lot_76 + 10) u_42.2.2.2.2.1 u_42.2.2.2.2.2))

def sX11_calm (nn : Int32) (w : Int32) (m_isThere : Int32) (m_kinds : Int32) (m_print : Int32) (m_low : Int32) (m_high : Int32) (m_lot : Int32) (r_market : Nat → Int32) (r_of : Nat → Int32) (r_state : Nat → Int32) (r_kept : Nat → Int32) (r_brings : Nat → Int32) : Int32 × (Int32) × (Int32) × (Int32) × (Int32) × (Nat → Int32) × (Nat → Int32) × (Nat → Int32) := lt (sX11_in nn.toInt64 1 20) (fun u_1 : Int32 => if u_1 = 0 then (((-1000001), 0, m_low, m_high, m_lot, r_state, r_kept, r_brings)) else (lt (sX11_in w.toInt64 0 99) (fun u_3 : Int32 => if u_3 = 0 then (((-1000001), 0, m_low, m_high, m_lot, r_state, r_kept, r_brings)) else (if m_isThere = 0 then (((-1000002), 0, m_low, m_high, m_lot, r_state, r_kept, r_brings)) else (lt (sX11_keep r_state r_kept) (fun u_6 : (Nat → Int32) => lt (lX11_calm_76 nn w m_kinds m_print r_market r_of u_6 4 0 (-1000000) m_low m_high 10 r_state r_brings) (fun u_43 : Int32 × Int32 × Int32 × Int32 × Int32 × (Nat → Int32) × (Nat → Int32) => (u_43.2.1, 0, m_low, m_high, m_lot, u_43.2.2.2.2.2.1, u_6, u_43.2.2.2.2.2.2))))))))
set_option maxHeartbeats 4000000 in
set_option maxRecDepth 100000 in
theorem mtX11_calm (l : Launch) (D : va_G) (cI cB cK cS : ClassId) (Y : Nat → Nat) (R : va_W) (m_thrown : Int32) (m_status : Int32) (m_isThere : Int32) (m_kinds : Int32) (m_newKinds : Int32) (m_print : Int32) (m_low : Int32) (m_high : Int32) (m_lot : Int32) (m_taped : Int32) (m_latest : Int32) (m_length : Int32) (m_cursor : Int32) (m_token : Int32) (m_from : Int32) (m_till : Int32) (m_fault : Int32) (m_faultAt : Int32) (m_traced : Int32) (r_lane : Nat → Int32) (r_many : Nat → Int32) (r_item : Nat → Int32) (r_market : Nat → Int32) (r_of : Nat → Int32) (r_newMarket : Nat → Int32) (r_newStart : Nat → Int32) (r_newOf : Nat → Int32) (r_newCoin : Nat → Int32) (r_state : Nat → Int32) (r_kept : Nat → Int32) (r_tape : Nat → Int32) (r_brings : Nat → Int32) (r_seen : Nat → Int32) (r_seenOut : Nat → Int32) (r_trace : Nat → Int32) (nn : Int32) (w : Int32) (hkd : m_kinds.toInt ≤ 5) (hth : ¬ m_isThere = 0 → ¬ r_market 1 = 0) : MX l yX11_calm wsX11_calm (rmX 7) D (tyX cI cB cK cS) pF0 (mdW Y cI m_thrown m_status m_isThere m_kinds m_newKinds m_print m_low m_high m_lot m_taped m_latest m_length m_cursor m_token m_from m_till m_fault m_faultAt m_traced r_lane r_many r_item r_market r_of r_newMarket r_newStart r_newOf r_newCoin r_state r_kept r_tape r_brings r_seen r_seenOut r_trace ++ R) [.ref (Y 0), .int nn, .int w] (sX11_calm nn w m_isThere m_kinds m_print m_low m_high m_lot r_market r_of r_state r_kept r_brings) (fun u => some (.int u.1)) (fun u => mdW Y cI u.2.1 m_status m_isThere m_kinds m_newKinds m_print u.2.2.1 u.2.2.2.1 u.2.2.2.2.1 m_taped m_latest m_length m_cursor m_token m_from m_till m_fault m_faultAt m_traced r_lane r_many r_item r_market r_of r_newMarket r_newStart r_newOf r_newCoin u.2.2.2.2.2.1 u.2.2.2.2.2.2.1 r_tape u.2.2.2.2.2.2.2 r_seen r_seenOut r_trace ++ R) := by
  refine mx_intro (cc := cX11_calm) (maxL := 11) (ret := (some .int)) (by decide) rfl (Nat.le_of_ble_eq_true rfl) ?_
  intro p e s m below meth c A ls H locs Qm hQm hx hb hr hml hts hown hlocks hA hS hP hK hD hF hl
  have hown : s.vm.findClass RX11 = some m.cls := hown
  have hl : lv_has ls 11 [(0, .ref (Y 0)), (1, .int nn), (2, .int w)] := hl
  have k58 := hts (.fieldLink RX11 58 "PigRoundsModel" "thrown" "I") (by decide +kernel)
  have k247 := hts (.constantLong RX11 247 (20)) (by decide +kernel)
  have k78 := hts (.constant RX11 78 (-1000001)) (by decide +kernel)
  have k229 := hts (.constantLong RX11 229 (99)) (by decide +kernel)
  have k176 := hts (.fieldLink RX11 176 "PigRoundsModel" "isThere" "Z") (by decide +kernel)
  have k188 := hts (.fieldLink RX11 188 "PigRoundsModel" "low" "I") (by decide +kernel)
  have k191 := hts (.fieldLink RX11 191 "PigRoundsModel" "high" "I") (by decide +kernel)
  have k194 := hts (.fieldLink RX11 194 "PigRoundsModel" "lot" "I") (by decide +kernel)
  have k94 := hts (.constant RX11 94 (-1000000)) (by decide +kernel)
  have k37 := hts (.fieldLink RX11 37 "PigRoundsModel" "state" "[I") (by decide +kernel)
  have k231 := hts (.constant RX11 231 (-1000002)) (by decide +kernel)
  have iX11 : ∀ w ∈ u_ws RX11 TX11 35, w ∈ wsX11_calm := by decide +kernel
  refine lv_aload_n hx hb dX11_calm_0 rfl (lv_at hl 0 rfl) ?_
  refine lv_iconst (v := 0) hx hb dX11_calm_1 (by decide) ?_
  refine va_put (D := D) (ci := 9) (v := .int 0) (ty := .int) (C := RX11) (T := TX11) (N := 35) hx hb hts iX11 tyX11 tyX11_ok nmX11 hown hK hP hD hS 0 rfl rfl 0 (by decide) k58 (fun _ h9 => h9) rfl (by decide +kernel) rfl rfl (Nat.le_of_ble_eq_true rfl) dX11_calm_2 (fun H locs hP hD hS => ?_)
  have hP : va_P D vwCl (mdW Y cI 0 m_status m_isThere m_kinds m_newKinds m_print m_low m_high m_lot m_taped m_latest m_length m_cursor m_token m_from m_till m_fault m_faultAt m_traced r_lane r_many r_item r_market r_of r_newMarket r_newStart r_newOf r_newCoin r_state r_kept r_tape r_brings r_seen r_seenOut r_trace ++ R) H := hP
  have hD : va_D A (mdW Y cI 0 m_status m_isThere m_kinds m_newKinds m_print m_low m_high m_lot m_taped m_latest m_length m_cursor m_token m_from m_till m_fault m_faultAt m_traced r_lane r_many r_item r_market r_of r_newMarket r_newStart r_newOf r_newCoin r_state r_kept r_tape r_brings r_seen r_seenOut r_trace ++ R) := hD
  refine lv_iload_n hx hb dX11_calm_5 rfl (lv_at hl 1 rfl) ?_
  refine lv_i2l (v := nn.toInt64) hx hb dX11_calm_6 rfl ?_
  refine lv_lconst (v := 1) hx hb dX11_calm_7 (by decide) ?_
  refine lv_ldc2 (v := 20) hx hb hown k247 dX11_calm_8 ?_
  refine mx_callS (As := [.long nn.toInt64, .long 1, .long 20]) (rest := []) ⟨hx, hb, hml, hown, hts⟩ (mtX11_in l D cI cB cK cS (mdW Y cI 0 m_status m_isThere m_kinds m_newKinds m_print m_low m_high m_lot m_taped m_latest m_length m_cursor m_token m_from m_till m_fault m_faultAt m_traced r_lane r_many r_item r_market r_of r_newMarket r_newStart r_newOf r_newCoin r_state r_kept r_tape r_brings r_seen r_seenOut r_trace ++ R) nn.toInt64 1 20) (va_cwS 3 hts gX11_calm_X11_in rfl rfl rfl (by decide +kernel) ⟨Nat.le_of_ble_eq_true rfl, Nat.le_of_ble_eq_true rfl⟩) pF0_ok trivial hK hP hD hS hA rfl hl.1 rfl (Nat.le_of_ble_eq_true rfl) dX11_calm_11 ⟨Nat.le_refl _, Nat.le_refl _⟩ (fun u_1 H locs eu_1 hP hD hS => ?_)
  refine W.eq (g2 := F0 m 14 ls [.int u_1]) rfl ?_
  have hP : va_P D vwCl (mdW Y cI 0 m_status m_isThere m_kinds m_newKinds m_print m_low m_high m_lot m_taped m_latest m_length m_cursor m_token m_from m_till m_fault m_faultAt m_traced r_lane r_many r_item r_market r_of r_newMarket r_newStart r_newOf r_newCoin r_state r_kept r_tape r_brings r_seen r_seenOut r_trace ++ R) H := hP
  have hD : va_D A (mdW Y cI 0 m_status m_isThere m_kinds m_newKinds m_print m_low m_high m_lot m_taped m_latest m_length m_cursor m_token m_from m_till m_fault m_faultAt m_traced r_lane r_many r_item r_market r_of r_newMarket r_newStart r_newOf r_newCoin r_state r_kept r_tape r_brings r_seen r_seenOut r_trace ++ R) := hD
  refine lv_if_eq (tgt := 29) hx hb dX11_calm_14 (by decide) (fun c_2 => ?_) (fun c_2 => ?_)
  · have d_2 := i_eq rfl (show (0 : Int32).toInt = 0 from by decide) c_2
    refine lv_ldc (v := (-1000001)) hx hb hown k78 dX11_calm_29 ?_
    rw [hQm]
    exact mx_iret (u0 := sX11_calm nn w m_isThere m_kinds m_print m_low m_high m_lot r_market r_of r_state r_kept r_brings) (rv := (fun u => some (.int u.1))) (w1 := (fun u => mdW Y cI u.2.1 m_status m_isThere m_kinds m_newKinds m_print u.2.2.1 u.2.2.2.1 u.2.2.2.2.1 m_taped m_latest m_length m_cursor m_token m_from m_till m_fault m_faultAt m_traced r_lane r_many r_item r_market r_of r_newMarket r_newStart r_newOf r_newCoin u.2.2.2.2.2.1 u.2.2.2.2.2.2.1 r_tape u.2.2.2.2.2.2.2 r_seen r_seenOut r_trace ++ R)) (u := ((-1000001), 0, m_low, m_high, m_lot, r_state, r_kept, r_brings)) hx hb hr hlocks hK hS (lt_eq eu_1 ((if_pos c_2).trans rfl)) hP hD rfl dX11_calm_31
  · have d_2 := i_eqn rfl (show (0 : Int32).toInt = 0 from by decide) c_2
    have dt_2 := sX11_in_t ((Int32.toInt_toInt64 _).trans rfl) (show (1 : Int64).toInt = 1 from by decide) (show (20 : Int64).toInt = 20 from by decide) eu_1 c_2
    refine lv_iload_n hx hb dX11_calm_17 rfl (lv_at hl 2 rfl) ?_
    refine lv_i2l (v := w.toInt64) hx hb dX11_calm_18 rfl ?_
    refine lv_lconst (v := 0) hx hb dX11_calm_19 (by decide) ?_
    refine lv_ldc2 (v := 99) hx hb hown k229 dX11_calm_20 ?_
    refine mx_callS (As := [.long w.toInt64, .long 0, .long 99]) (rest := []) ⟨hx, hb, hml, hown, hts⟩ (mtX11_in l D cI cB cK cS (mdW Y cI 0 m_status m_isThere m_kinds m_newKinds m_print m_low m_high m_lot m_taped m_latest m_length m_cursor m_token m_from m_till m_fault m_faultAt m_traced r_lane r_many r_item r_market r_of r_newMarket r_newStart r_newOf r_newCoin r_state r_kept r_tape r_brings r_seen r_seenOut r_trace ++ R) w.toInt64 0 99) (va_cwS 3 hts gX11_calm_X11_in rfl rfl rfl (by decide +kernel) ⟨Nat.le_of_ble_eq_true rfl, Nat.le_of_ble_eq_true rfl⟩) pF0_ok trivial hK hP hD hS hA rfl hl.1 rfl (Nat.le_of_ble_eq_true rfl) dX11_calm_23 ⟨Nat.le_refl _, Nat.le_refl _⟩ (fun u_3 H locs eu_3 hP hD hS => ?_)
    refine W.eq (g2 := F0 m 26 ls [.int u_3]) rfl ?_
    have hP : va_P D vwCl (mdW Y cI 0 m_status m_isThere m_kinds m_newKinds m_print m_low m_high m_lot m_taped m_latest m_length m_cursor m_token m_from m_till m_fault m_faultAt m_traced r_lane r_many r_item r_market r_of r_newMarket r_newStart r_newOf r_newCoin r_state r_kept r_tape r_brings r_seen r_seenOut r_trace ++ R) H := hP
    have hD : va_D A (mdW Y cI 0 m_status m_isThere m_kinds m_newKinds m_print m_low m_high m_lot m_taped m_latest m_length m_cursor m_token m_from m_till m_fault m_faultAt m_traced r_lane r_many r_item r_market r_of r_newMarket r_newStart r_newOf r_newCoin r_state r_kept r_tape r_brings r_seen r_seenOut r_trace ++ R) := hD
    refine lv_if_ne (tgt := 32) hx hb dX11_calm_26 (by decide) (fun c_4 => ?_) (fun c_4 => ?_)
    · have d_4 := i_eqn rfl (show (0 : Int32).toInt = 0 from by decide) c_4
      have dt_4 := sX11_in_t ((Int32.toInt_toInt64 _).trans rfl) (show (0 : Int64).toInt = 0 from by decide) (show (99 : Int64).toInt = 99 from by decide) eu_3 c_4
      refine lv_aload_n hx hb dX11_calm_32 rfl (lv_at hl 0 rfl) ?_
      refine va_get (D := D) (ci := 9) (v := .int m_isThere) (C := RX11) (T := TX11) (N := 35) hx hb hts iX11 hown hK hP 0 rfl rfl 5 (by decide) k176 (fun _ h9 => h9) rfl dX11_calm_33 ?_
      refine lv_if_ne (tgt := 42) hx hb dX11_calm_36 (by decide) (fun c_5 => ?_) (fun c_5 => ?_)
      · have d_5 := i_eqn rfl (show (0 : Int32).toInt = 0 from by decide) c_5
        refine lv_aload_n hx hb dX11_calm_42 rfl (lv_at hl 0 rfl) ?_
        refine va_get (D := D) (ci := 9) (v := .int m_low) (C := RX11) (T := TX11) (N := 35) hx hb hts iX11 hown hK hP 0 rfl rfl 17 (by decide) k188 (fun _ h9 => h9) rfl dX11_calm_43 ?_
        refine lv_istore_n (lv' := [(3, .int m_low), (0, .ref (Y 0)), (1, .int nn), (2, .int w)]) hx hb dX11_calm_46 rfl hl (by decide) rfl (fun ls hl => ?_)
        refine lv_aload_n hx hb dX11_calm_47 rfl (lv_at hl 1 rfl) ?_
        refine va_get (D := D) (ci := 9) (v := .int m_high) (C := RX11) (T := TX11) (N := 35) hx hb hts iX11 hown hK hP 0 rfl rfl 18 (by decide) k191 (fun _ h9 => h9) rfl dX11_calm_48 ?_
        refine lv_istore (lv' := [(4, .int m_high), (3, .int m_low), (0, .ref (Y 0)), (1, .int nn), (2, .int w)]) hx hb dX11_calm_51 hl (by decide) rfl (fun ls hl => ?_)
        refine lv_aload_n hx hb dX11_calm_53 rfl (lv_at hl 2 rfl) ?_
        refine va_get (D := D) (ci := 9) (v := .int m_lot) (C := RX11) (T := TX11) (N := 35) hx hb hts iX11 hown hK hP 0 rfl rfl 19 (by decide) k194 (fun _ h9 => h9) rfl dX11_calm_54 ?_
        refine lv_istore (lv' := [(5, .int m_lot), (4, .int m_high), (3, .int m_low), (0, .ref (Y 0)), (1, .int nn), (2, .int w)]) hx hb dX11_calm_57 hl (by decide) rfl (fun ls hl => ?_)
        refine lv_ldc (v := (-1000000)) hx hb hown k94 dX11_calm_59 ?_
        refine lv_istore (lv' := [(6, .int (-1000000)), (5, .int m_lot), (4, .int m_high), (3, .int m_low), (0, .ref (Y 0)), (1, .int nn), (2, .int w)]) hx hb dX11_calm_61 hl (by decide) rfl (fun ls hl => ?_)
        refine lv_iconst (v := 0) hx hb dX11_calm_63 (by decide) ?_
        refine lv_istore (lv' := [(7, .int 0), (6, .int (-1000000)), (5, .int m_lot), (4, .int m_high), (3, .int m_low), (0, .ref (Y 0)), (1, .int nn), (2, .int w)]) hx hb dX11_calm_64 hl (by decide) rfl (fun ls hl => ?_)
        refine lv_aload_n hx hb dX11_calm_66 rfl (lv_at hl 5 rfl) ?_
        refine mx_callV (As := []) (rest := []) ⟨hx, hb, hml, hown, hts⟩ (mtX11_keep l D cI cB cK cS Y R 0 m_status m_isThere m_kinds m_newKinds m_print m_low m_high m_lot m_taped m_latest m_length m_cursor m_token m_from m_till m_fault m_faultAt m_traced r_lane r_many r_item r_market r_of r_newMarket r_newStart r_newOf r_newCoin r_state r_kept r_tape r_brings r_seen r_seenOut r_trace) (cwV 0 hts gX11_calm_X11_keep rfl rfl rfl (by decide +kernel) ⟨Nat.le_of_ble_eq_true rfl, Nat.le_of_ble_eq_true rfl⟩) pF0_ok trivial hK hP hD hS hA 0 rfl rfl rfl rfl hl.1 rfl (Nat.le_of_ble_eq_true rfl) dX11_calm_67 ⟨Nat.le_refl _, Nat.le_refl _⟩ (fun u_6 H locs eu_6 hP hD hS => ?_)
        refine W.eq (g2 := F0 m 70 ls []) rfl ?_
        have hP : va_P D vwCl (mdW Y cI 0 m_status m_isThere m_kinds m_newKinds m_print m_low m_high m_lot m_taped m_latest m_length m_cursor m_token m_from m_till m_fault m_faultAt m_traced r_lane r_many r_item r_market r_of r_newMarket r_newStart r_newOf r_newCoin r_state u_6 r_tape r_brings r_seen r_seenOut r_trace ++ R) H := hP
        have hD : va_D A (mdW Y cI 0 m_status m_isThere m_kinds m_newKinds m_print m_low m_high m_lot m_taped m_latest m_length m_cursor m_token m_from m_till m_fault m_faultAt m_traced r_lane r_many r_item r_market r_of r_newMarket r_newStart r_newOf r_newCoin r_state u_6 r_tape r_brings r_seen r_seenOut r_trace ++ R) := hD
        refine lv_aload_n hx hb dX11_calm_70 rfl (lv_at hl 5 rfl) ?_
        refine lv_bipush (v := 10) hx hb dX11_calm_71 (by decide) ?_
        refine va_put (D := D) (ci := 9) (v := .int 10) (ty := .int) (C := RX11) (T := TX11) (N := 35) hx hb hts iX11 tyX11 tyX11_ok nmX11 hown hK hP hD hS 0 rfl rfl 19 (by decide) k194 (fun _ h9 => h9) rfl (by decide +kernel) rfl rfl (Nat.le_of_ble_eq_true rfl) dX11_calm_73 (fun H locs hP hD hS => ?_)
        have hP : va_P D vwCl (mdW Y cI 0 m_status m_isThere m_kinds m_newKinds m_print m_low m_high 10 m_taped m_latest m_length m_cursor m_token m_from m_till m_fault m_faultAt m_traced r_lane r_many r_item r_market r_of r_newMarket r_newStart r_newOf r_newCoin r_state u_6 r_tape r_brings r_seen r_seenOut r_trace ++ R) H := hP
        have hD : va_D A (mdW Y cI 0 m_status m_isThere m_kinds m_newKinds m_print m_low m_high 10 m_taped m_latest m_length m_cursor m_token m_from m_till m_fault m_faultAt m_traced r_lane r_many r_item r_market r_of r_newMarket r_newStart r_newOf r_newCoin r_state u_6 r_tape r_brings r_seen r_seenOut r_trace ++ R) := hD
        have L_76 : ∀ (n : Nat) (x7_76 : Int32) (x6_76 : Int32) (m_low_76 : Int32) (m_high_76 : Int32) (m_lot_76 : Int32) (r_state_76 : Nat → Int32) (r_brings_76 : Nat → Int32) (H : Heap) (locs : List Loc) (ls : Array Slot), 0 ≤ m_lot_76.toInt → m_lot_76.toInt ≤ 40 → (40 : Int) < m_lot_76.toInt + 10 * ((n : Nat) : Int) → va_P D vwCl (mdW Y cI 0 m_status m_isThere m_kinds m_newKinds m_print m_low_76 m_high_76 m_lot_76 m_taped m_latest m_length m_cursor m_token m_from m_till m_fault m_faultAt m_traced r_lane r_many r_item r_market r_of r_newMarket r_newStart r_newOf r_newCoin r_state_76 u_6 r_tape r_brings_76 r_seen r_seenOut r_trace ++ R) H → va_D A (mdW Y cI 0 m_status m_isThere m_kinds m_newKinds m_print m_low_76 m_high_76 m_lot_76 m_taped m_latest m_length m_cursor m_token m_from m_till m_fault m_faultAt m_traced r_lane r_many r_item r_market r_of r_newMarket r_newStart r_newOf r_newCoin r_state_76 u_6 r_tape r_brings_76 r_seen r_seenOut r_trace ++ R) → va_S A s.heap H locs → lv_has ls 11 [(7, .int x7_76), (6, .int x6_76), (5, .int m_lot), (4, .int m_high), (3, .int m_low), (0, .ref (Y 0)), (1, .int nn), (2, .int w)] → (∀ (u : Int32 × Int32 × Int32 × Int32 × Int32 × (Nat → Int32) × (Nat → Int32)) (H : Heap) (locs : List Loc) (ls : Array Slot), u = lX11_calm_76 nn w m_kinds m_print r_market r_of u_6 n x7_76 x6_76 m_low_76 m_high_76 m_lot_76 r_state_76 r_brings_76 → va_P D vwCl (mdW Y cI 0 m_status m_isThere m_kinds m_newKinds m_print u.2.2.1 u.2.2.2.1 u.2.2.2.2.1 m_taped m_latest m_length m_cursor m_token m_from m_till m_fault m_faultAt m_traced r_lane r_many r_item r_market r_of r_newMarket r_newStart r_newOf r_newCoin u.2.2.2.2.2.1 u_6 r_tape u.2.2.2.2.2.2 r_seen r_seenOut r_trace ++ R) H → va_D A (mdW Y cI 0 m_status m_isThere m_kinds m_newKinds m_print u.2.2.1 u.2.2.2.1 u.2.2.2.2.1 m_taped m_latest m_length m_cursor m_token m_from m_till m_fault m_faultAt m_traced r_lane r_many r_item r_market r_of r_newMarket r_newStart r_newOf r_newCoin u.2.2.2.2.2.1 u_6 r_tape u.2.2.2.2.2.2 r_seen r_seenOut r_trace ++ R) → va_S A s.heap H locs → lv_has ls 11 [(6, .int u.2.1), (5, .int m_lot), (4, .int m_high), (3, .int m_low), (0, .ref (Y 0))] → W p l e (rmX 7) s m ([.ref (Y 0), .int nn, .int w] : List Value).toArray below meth c H locs 0 0 Qm (F0 m 305 ls [])) → W p l e (rmX 7) s m ([.ref (Y 0), .int nn, .int w] : List Value).toArray below meth c H locs 0 0 Qm (F0 m 76 ls []) := by
          intro n
          induction n with
          | zero =>
            intro x7_76 x6_76 m_low_76 m_high_76 m_lot_76 r_state_76 r_brings_76 H locs ls iv_76_0 iv_76_1 iv_76_2 hP hD hS hl kont_76
            exfalso; omega
          | succ n ih_76 =>
            intro x7_76 x6_76 m_low_76 m_high_76 m_lot_76 r_state_76 r_brings_76 H locs ls iv_76_0 iv_76_1 iv_76_2 hP hD hS hl kont_76
            refine lv_aload_n hx hb dX11_calm_76 rfl (lv_at hl 5 rfl) ?_
            refine va_get (D := D) (ci := 9) (v := .int m_lot_76) (C := RX11) (T := TX11) (N := 35) hx hb hts iX11 hown hK hP 0 rfl rfl 19 (by decide) k194 (fun _ h9 => h9) rfl dX11_calm_77 ?_
            refine lv_bipush (v := 31) hx hb dX11_calm_80 (by decide) ?_
            refine lv_icmp_ge (tgt := 305) hx hb dX11_calm_82 (by decide) (fun c_7 => ?_) (fun c_7 => ?_)
            · have d_7 := i_le (show (31 : Int32).toInt = 31 from by decide) rfl c_7
              exact kont_76 (x7_76, x6_76, m_low_76, m_high_76, m_lot_76, r_state_76, r_brings_76) H locs ls (show lX11_calm_76 nn w m_kinds m_print r_market r_of u_6 (n + 1) x7_76 x6_76 m_low_76 m_high_76 m_lot_76 r_state_76 r_brings_76 = (x7_76, x6_76, m_low_76, m_high_76, m_lot_76, r_state_76, r_brings_76) from ((if_pos c_7).trans rfl)).symm  hP hD hS (lv_sub hl [1, 2, 3, 4, 5] rfl)
            · have d_7 := i_len (show (31 : Int32).toInt = 31 from by decide) rfl c_7
              refine lv_aload_n hx hb dX11_calm_85 rfl (lv_at hl 5 rfl) ?_
              refine lv_iconst (v := 5) hx hb dX11_calm_86 (by decide) ?_
              refine va_put (D := D) (ci := 9) (v := .int 5) (ty := .int) (C := RX11) (T := TX11) (N := 35) hx hb hts iX11 tyX11 tyX11_ok nmX11 hown hK hP hD hS 0 rfl rfl 18 (by decide) k191 (fun _ h9 => h9) rfl (by decide +kernel) rfl rfl (Nat.le_of_ble_eq_true rfl) dX11_calm_87 (fun H locs hP hD hS => ?_)
              have hP : va_P D vwCl (mdW Y cI 0 m_status m_isThere m_kinds m_newKinds m_print m_low_76 5 m_lot_76 m_taped m_latest m_length m_cursor m_token m_from m_till m_fault m_faultAt m_traced r_lane r_many r_item r_market r_of r_newMarket r_newStart r_newOf r_newCoin r_state_76 u_6 r_tape r_brings_76 r_seen r_seenOut r_trace ++ R) H := hP
              have hD : va_D A (mdW Y cI 0 m_status m_isThere m_kinds m_newKinds m_print m_low_76 5 m_lot_76 m_taped m_latest m_length m_cursor m_token m_from m_till m_fault m_faultAt m_traced r_lane r_many r_item r_market r_of r_newMarket r_newStart r_newOf r_newCoin r_state_76 u_6 r_tape r_brings_76 r_seen r_seenOut r_trace ++ R) := hD
              have L_90 : ∀ (n : Nat) (x7_90 : Int32) (x6_90 : Int32) (m_low_90 : Int32) (m_high_90 : Int32) (r_state_90 : Nat → Int32) (r_brings_90 : Nat → Int32) (H : Heap) (locs : List Loc) (ls : Array Slot), 0 ≤ m_high_90.toInt → m_high_90.toInt ≤ 55 → (55 : Int) < m_high_90.toInt + 5 * ((n : Nat) : Int) → va_P D vwCl (mdW Y cI 0 m_status m_isThere m_kinds m_newKinds m_print m_low_90 m_high_90 m_lot_76 m_taped m_latest m_length m_cursor m_token m_from m_till m_fault m_faultAt m_traced r_lane r_many r_item r_market r_of r_newMarket r_newStart r_newOf r_newCoin r_state_90 u_6 r_tape r_brings_90 r_seen r_seenOut r_trace ++ R) H → va_D A (mdW Y cI 0 m_status m_isThere m_kinds m_newKinds m_print m_low_90 m_high_90 m_lot_76 m_taped m_latest m_length m_cursor m_token m_from m_till m_fault m_faultAt m_traced r_lane r_many r_item r_market r_of r_newMarket r_newStart r_newOf r_newCoin r_state_90 u_6 r_tape r_brings_90 r_seen r_seenOut r_trace ++ R) → va_S A s.heap H locs → lv_has ls 11 [(7, .int x7_90), (6, .int x6_90), (5, .int m_lot), (4, .int m_high), (3, .int m_low), (0, .ref (Y 0)), (1, .int nn), (2, .int w)] → (∀ (u : Int32 × Int32 × Int32 × Int32 × (Nat → Int32) × (Nat → Int32)) (H : Heap) (locs : List Loc) (ls : Array Slot), u = lX11_calm_90 nn w m_kinds m_print r_market r_of u_6 m_lot_76 n x7_90 x6_90 m_low_90 m_high_90 r_state_90 r_brings_90 → va_P D vwCl (mdW Y cI 0 m_status m_isThere m_kinds m_newKinds m_print u.2.2.1 u.2.2.2.1 m_lot_76 m_taped m_latest m_length m_cursor m_token m_from m_till m_fault m_faultAt m_traced r_lane r_many r_item r_market r_of r_newMarket r_newStart r_newOf r_newCoin u.2.2.2.2.1 u_6 r_tape u.2.2.2.2.2 r_seen r_seenOut r_trace ++ R) H → va_D A (mdW Y cI 0 m_status m_isThere m_kinds m_newKinds m_print u.2.2.1 u.2.2.2.1 m_lot_76 m_taped m_latest m_length m_cursor m_token m_from m_till m_fault m_faultAt m_traced r_lane r_many r_item r_market r_of r_newMarket r_newStart r_newOf r_newCoin u.2.2.2.2.1 u_6 r_tape u.2.2.2.2.2 r_seen r_seenOut r_trace ++ R) → va_S A s.heap H locs → lv_has ls 11 [(7, .int u.1), (6, .int u.2.1), (5, .int m_lot), (4, .int m_high), (3, .int m_low), (0, .ref (Y 0)), (1, .int nn), (2, .int w)] → W p l e (rmX 7) s m ([.ref (Y 0), .int nn, .int w] : List Value).toArray below meth c H locs 0 0 Qm (F0 m 291 ls [])) → W p l e (rmX 7) s m ([.ref (Y 0), .int nn, .int w] : List Value).toArray below meth c H locs 0 0 Qm (F0 m 90 ls []) := by
                intro n
                induction n with
                | zero =>
                  intro x7_90 x6_90 m_low_90 m_high_90 r_state_90 r_brings_90 H locs ls iv_90_0 iv_90_1 iv_90_2 hP hD hS hl kont_90
                  exfalso; omega
                | succ n ih_90 =>
                  intro x7_90 x6_90 m_low_90 m_high_90 r_state_90 r_brings_90 H locs ls iv_90_0 iv_90_1 iv_90_2 hP hD hS hl kont_90
                  refine lv_aload_n hx hb dX11_calm_90 rfl (lv_at hl 5 rfl) ?_
                  refine va_get (D := D) (ci := 9) (v := .int m_high_90) (C := RX11) (T := TX11) (N := 35) hx hb hts iX11 hown hK hP 0 rfl rfl 18 (by decide) k191 (fun _ h9 => h9) rfl dX11_calm_91 ?_
                  refine lv_bipush (v := 51) hx hb dX11_calm_94 (by decide) ?_
                  refine lv_icmp_ge (tgt := 291) hx hb dX11_calm_96 (by decide) (fun c_8 => ?_) (fun c_8 => ?_)
                  · have d_8 := i_le (show (51 : Int32).toInt = 51 from by decide) rfl c_8
                    exact kont_90 (x7_90, x6_90, m_low_90, m_high_90, r_state_90, r_brings_90) H locs ls (show lX11_calm_90 nn w m_kinds m_print r_market r_of u_6 m_lot_76 (n + 1) x7_90 x6_90 m_low_90 m_high_90 r_state_90 r_brings_90 = (x7_90, x6_90, m_low_90, m_high_90, r_state_90, r_brings_90) from ((if_pos c_8).trans rfl)).symm  hP hD hS (lv_sub hl [0, 1, 2, 3, 4, 5, 6, 7] rfl)
                  · have d_8 := i_len (show (51 : Int32).toInt = 51 from by decide) rfl c_8
                    refine lv_aload_n hx hb dX11_calm_99 rfl (lv_at hl 5 rfl) ?_
                    refine lv_iconst (v := 0) hx hb dX11_calm_100 (by decide) ?_
                    refine va_put (D := D) (ci := 9) (v := .int 0) (ty := .int) (C := RX11) (T := TX11) (N := 35) hx hb hts iX11 tyX11 tyX11_ok nmX11 hown hK hP hD hS 0 rfl rfl 17 (by decide) k188 (fun _ h9 => h9) rfl (by decide +kernel) rfl rfl (Nat.le_of_ble_eq_true rfl) dX11_calm_101 (fun H locs hP hD hS => ?_)
                    have hP : va_P D vwCl (mdW Y cI 0 m_status m_isThere m_kinds m_newKinds m_print 0 m_high_90 m_lot_76 m_taped m_latest m_length m_cursor m_token m_from m_till m_fault m_faultAt m_traced r_lane r_many r_item r_market r_of r_newMarket r_newStart r_newOf r_newCoin r_state_90 u_6 r_tape r_brings_90 r_seen r_seenOut r_trace ++ R) H := hP
                    have hD : va_D A (mdW Y cI 0 m_status m_isThere m_kinds m_newKinds m_print 0 m_high_90 m_lot_76 m_taped m_latest m_length m_cursor m_token m_from m_till m_fault m_faultAt m_traced r_lane r_many r_item r_market r_of r_newMarket r_newStart r_newOf r_newCoin r_state_90 u_6 r_tape r_brings_90 r_seen r_seenOut r_trace ++ R) := hD
                    have L_104 : ∀ (n : Nat) (x7_104 : Int32) (x6_104 : Int32) (m_low_104 : Int32) (r_state_104 : Nat → Int32) (r_brings_104 : Nat → Int32) (H : Heap) (locs : List Loc) (ls : Array Slot), 0 ≤ m_low_104.toInt → m_low_104.toInt ≤ 60 → (60 : Int) < m_low_104.toInt + 5 * ((n : Nat) : Int) → va_P D vwCl (mdW Y cI 0 m_status m_isThere m_kinds m_newKinds m_print m_low_104 m_high_90 m_lot_76 m_taped m_latest m_length m_cursor m_token m_from m_till m_fault m_faultAt m_traced r_lane r_many r_item r_market r_of r_newMarket r_newStart r_newOf r_newCoin r_state_104 u_6 r_tape r_brings_104 r_seen r_seenOut r_trace ++ R) H → va_D A (mdW Y cI 0 m_status m_isThere m_kinds m_newKinds m_print m_low_104 m_high_90 m_lot_76 m_taped m_latest m_length m_cursor m_token m_from m_till m_fault m_faultAt m_traced r_lane r_many r_item r_market r_of r_newMarket r_newStart r_newOf r_newCoin r_state_104 u_6 r_tape r_brings_104 r_seen r_seenOut r_trace ++ R) → va_S A s.heap H locs → lv_has ls 11 [(7, .int x7_104), (6, .int x6_104), (5, .int m_lot), (4, .int m_high), (3, .int m_low), (0, .ref (Y 0)), (1, .int nn), (2, .int w)] → (∀ (u : Int32 × Int32 × Int32 × (Nat → Int32) × (Nat → Int32)) (H : Heap) (locs : List Loc) (ls : Array Slot), u = lX11_calm_104 nn w m_kinds m_print r_market r_of u_6 m_lot_76 m_high_90 n x7_104 x6_104 m_low_104 r_state_104 r_brings_104 → va_P D vwCl (mdW Y cI 0 m_status m_isThere m_kinds m_newKinds m_print u.2.2.1 m_high_90 m_lot_76 m_taped m_latest m_length m_cursor m_token m_from m_till m_fault m_faultAt m_traced r_lane r_many r_item r_market r_of r_newMarket r_newStart r_newOf r_newCoin u.2.2.2.1 u_6 r_tape u.2.2.2.2 r_seen r_seenOut r_trace ++ R) H → va_D A (mdW Y cI 0 m_status m_isThere m_kinds m_newKinds m_print u.2.2.1 m_high_90 m_lot_76 m_taped m_latest m_length m_cursor m_token m_from m_till m_fault m_faultAt m_traced r_lane r_many r_item r_market r_of r_newMarket r_newStart r_newOf r_newCoin u.2.2.2.1 u_6 r_tape u.2.2.2.2 r_seen r_seenOut r_trace ++ R) → va_S A s.heap H locs → lv_has ls 11 [(7, .int u.1), (6, .int u.2.1), (5, .int m_lot), (4, .int m_high), (3, .int m_low), (0, .ref (Y 0)), (1, .int nn), (2, .int w)] → W p l e (rmX 7) s m ([.ref (Y 0), .int nn, .int w] : List Value).toArray below meth c H locs 0 0 Qm (F0 m 278 ls [])) → W p l e (rmX 7) s m ([.ref (Y 0), .int nn, .int w] : List Value).toArray below meth c H locs 0 0 Qm (F0 m 104 ls []) := by
                      intro n
                      induction n with
                      | zero =>
                        intro x7_104 x6_104 m_low_104 r_state_104 r_brings_104 H locs ls iv_104_0 iv_104_1 iv_104_2 hP hD hS hl kont_104
                        exfalso; omega
                      | succ n ih_104 =>
                        intro x7_104 x6_104 m_low_104 r_state_104 r_brings_104 H locs ls iv_104_0 iv_104_1 iv_104_2 hP hD hS hl kont_104
                        refine lv_aload_n hx hb dX11_calm_104 rfl (lv_at hl 5 rfl) ?_
                        refine va_get (D := D) (ci := 9) (v := .int m_low_104) (C := RX11) (T := TX11) (N := 35) hx hb hts iX11 hown hK hP 0 rfl rfl 17 (by decide) k188 (fun _ h9 => h9) rfl dX11_calm_105 ?_
                        refine lv_aload_n hx hb dX11_calm_108 rfl (lv_at hl 5 rfl) ?_
                        refine va_get (D := D) (ci := 9) (v := .int m_high_90) (C := RX11) (T := TX11) (N := 35) hx hb hts iX11 hown hK hP 0 rfl rfl 18 (by decide) k191 (fun _ h9 => h9) rfl dX11_calm_109 ?_
                        refine lv_icmp_ge (tgt := 278) hx hb dX11_calm_112 (by decide) (fun c_9 => ?_) (fun c_9 => ?_)
                        · have d_9 := i_le rfl rfl c_9
                          exact kont_104 (x7_104, x6_104, m_low_104, r_state_104, r_brings_104) H locs ls (show lX11_calm_104 nn w m_kinds m_print r_market r_of u_6 m_lot_76 m_high_90 (n + 1) x7_104 x6_104 m_low_104 r_state_104 r_brings_104 = (x7_104, x6_104, m_low_104, r_state_104, r_brings_104) from ((if_pos c_9).trans rfl)).symm  hP hD hS (lv_sub hl [0, 1, 2, 3, 4, 5, 6, 7] rfl)
                        · have d_9 := i_len rfl rfl c_9
                          refine lv_aload_n hx hb dX11_calm_115 rfl (lv_at hl 5 rfl) ?_
                          refine va_get (D := D) (ci := 9) (v := .ref (Y 14)) (C := RX11) (T := TX11) (N := 35) hx hb hts iX11 hown hK hP 0 rfl rfl 14 (by decide) k37 (fun _ h9 => h9) rfl dX11_calm_116 ?_
                          refine lv_iconst (v := 4) hx hb dX11_calm_119 (by decide) ?_
                          refine lv_iconst (v := 0) hx hb dX11_calm_120 (by decide) ?_
                          have q_10 : vp_in (4 : Int32) 17 := vp_in_iff.mpr (by decide)
                          refine va_iast hx hb hK hP hD hS 10 0 rfl rfl q_10 dX11_calm_121 (fun H locs hP hD hS => ?_)
                          obtain ⟨ar_11, ear_11⟩ : ∃ z : Nat → Int32, z = upd r_state_104 4 0 := ⟨_, rfl⟩
                          have hP : va_P D vwCl (mdW Y cI 0 m_status m_isThere m_kinds m_newKinds m_print m_low_104 m_high_90 m_lot_76 m_taped m_latest m_length m_cursor m_token m_from m_till m_fault m_faultAt m_traced r_lane r_many r_item r_market r_of r_newMarket r_newStart r_newOf r_newCoin (upd r_state_104 4 0) u_6 r_tape r_brings_104 r_seen r_seenOut r_trace ++ R) H := hP
                          have hD : va_D A (mdW Y cI 0 m_status m_isThere m_kinds m_newKinds m_print m_low_104 m_high_90 m_lot_76 m_taped m_latest m_length m_cursor m_token m_from m_till m_fault m_faultAt m_traced r_lane r_many r_item r_market r_of r_newMarket r_newStart r_newOf r_newCoin (upd r_state_104 4 0) u_6 r_tape r_brings_104 r_seen r_seenOut r_trace ++ R) := hD
                          rw [← ear_11] at hP hD
                          have hP : va_P D vwCl (mdW Y cI 0 m_status m_isThere m_kinds m_newKinds m_print m_low_104 m_high_90 m_lot_76 m_taped m_latest m_length m_cursor m_token m_from m_till m_fault m_faultAt m_traced r_lane r_many r_item r_market r_of r_newMarket r_newStart r_newOf r_newCoin ar_11 u_6 r_tape r_brings_104 r_seen r_seenOut r_trace ++ R) H := hP
                          have hD : va_D A (mdW Y cI 0 m_status m_isThere m_kinds m_newKinds m_print m_low_104 m_high_90 m_lot_76 m_taped m_latest m_length m_cursor m_token m_from m_till m_fault m_faultAt m_traced r_lane r_many r_item r_market r_of r_newMarket r_newStart r_newOf r_newCoin ar_11 u_6 r_tape r_brings_104 r_seen r_seenOut r_trace ++ R) := hD
                          refine lv_aload_n hx hb dX11_calm_122 rfl (lv_at hl 5 rfl) ?_
                          refine va_get (D := D) (ci := 9) (v := .ref (Y 14)) (C := RX11) (T := TX11) (N := 35) hx hb hts iX11 hown hK hP 0 rfl rfl 14 (by decide) k37 (fun _ h9 => h9) rfl dX11_calm_123 ?_
                          refine lv_iconst (v := 5) hx hb dX11_calm_126 (by decide) ?_
                          refine lv_iconst (v := 0) hx hb dX11_calm_127 (by decide) ?_
                          have q_12 : vp_in (5 : Int32) 17 := vp_in_iff.mpr (by decide)
                          refine va_iast hx hb hK hP hD hS 10 0 rfl rfl q_12 dX11_calm_128 (fun H locs hP hD hS => ?_)
                          obtain ⟨ar_13, ear_13⟩ : ∃ z : Nat → Int32, z = upd ar_11 5 0 := ⟨_, rfl⟩
                          have hP : va_P D vwCl (mdW Y cI 0 m_status m_isThere m_kinds m_newKinds m_print m_low_104 m_high_90 m_lot_76 m_taped m_latest m_length m_cursor m_token m_from m_till m_fault m_faultAt m_traced r_lane r_many r_item r_market r_of r_newMarket r_newStart r_newOf r_newCoin (upd ar_11 5 0) u_6 r_tape r_brings_104 r_seen r_seenOut r_trace ++ R) H := hP
                          have hD : va_D A (mdW Y cI 0 m_status m_isThere m_kinds m_newKinds m_print m_low_104 m_high_90 m_lot_76 m_taped m_latest m_length m_cursor m_token m_from m_till m_fault m_faultAt m_traced r_lane r_many r_item r_market r_of r_newMarket r_newStart r_newOf r_newCoin (upd ar_11 5 0) u_6 r_tape r_brings_104 r_seen r_seenOut r_trace ++ R) := hD
                          rw [← ear_13] at hP hD
                          have hP : va_P D vwCl (mdW Y cI 0 m_status m_isThere m_kinds m_newKinds m_print m_low_104 m_high_90 m_lot_76 m_taped m_latest m_length m_cursor m_token m_from m_till m_fault m_faultAt m_traced r_lane r_many r_item r_market r_of r_newMarket r_newStart r_newOf r_newCoin ar_13 u_6 r_tape r_brings_104 r_seen r_seenOut r_trace ++ R) H := hP
                          have hD : va_D A (mdW Y cI 0 m_status m_isThere m_kinds m_newKinds m_print m_low_104 m_high_90 m_lot_76 m_taped m_latest m_length m_cursor m_token m_from m_till m_fault m_faultAt m_traced r_lane r_many r_item r_market r_of r_newMarket r_newStart r_newOf r_newCoin ar_13 u_6 r_tape r_brings_104 r_seen r_seenOut r_trace ++ R) := hD
                          refine lv_iconst (v := 0) hx hb dX11_calm_129 (by decide) ?_
                          refine lv_istore (lv' := [(8, .int 0), (7, .int x7_104), (6, .int x6_104), (5, .int m_lot), (4, .int m_high), (3, .int m_low), (0, .ref (Y 0)), (1, .int nn), (2, .int w)]) hx hb dX11_calm_130 hl (by decide) rfl (fun ls hl => ?_)
                          refine lv_bipush (v := 100) hx hb dX11_calm_132 (by decide) ?_
                          refine lv_istore (lv' := [(9, .int 100), (8, .int 0), (7, .int x7_104), (6, .int x6_104), (5, .int m_lot), (4, .int m_high), (3, .int m_low), (0, .ref (Y 0)), (1, .int nn), (2, .int w)]) hx hb dX11_calm_134 hl (by decide) rfl (fun ls hl => ?_)
                          refine lv_iconst (v := 0) hx hb dX11_calm_136 (by decide) ?_
                          refine lv_istore (lv' := [(10, .int 0), (9, .int 100), (8, .int 0), (7, .int x7_104), (6, .int x6_104), (5, .int m_lot), (4, .int m_high), (3, .int m_low), (0, .ref (Y 0)), (1, .int nn), (2, .int w)]) hx hb dX11_calm_137 hl (by decide) rfl (fun ls hl => ?_)
                          have L_139 : ∀ (n : Nat) (x10_139 : Int32) (x9_139 : Int32) (x8_139 : Int32) (r_state_139 : Nat → Int32) (r_brings_139 : Nat → Int32) (H : Heap) (locs : List Loc) (ls : Array Slot), 0 ≤ x10_139.toInt → x10_139.toInt ≤ 20 → (20 : Int) < x10_139.toInt + ((n : Nat) : Int) → va_P D vwCl (mdW Y cI 0 m_status m_isThere m_kinds m_newKinds m_print m_low_104 m_high_90 m_lot_76 m_taped m_latest m_length m_cursor m_token m_from m_till m_fault m_faultAt m_traced r_lane r_many r_item r_market r_of r_newMarket r_newStart r_newOf r_newCoin r_state_139 u_6 r_tape r_brings_139 r_seen r_seenOut r_trace ++ R) H → va_D A (mdW Y cI 0 m_status m_isThere m_kinds m_newKinds m_print m_low_104 m_high_90 m_lot_76 m_taped m_latest m_length m_cursor m_token m_from m_till m_fault m_faultAt m_traced r_lane r_many r_item r_market r_of r_newMarket r_newStart r_newOf r_newCoin r_state_139 u_6 r_tape r_brings_139 r_seen r_seenOut r_trace ++ R) → va_S A s.heap H locs → lv_has ls 11 [(10, .int x10_139), (9, .int x9_139), (8, .int x8_139), (7, .int x7_104), (6, .int x6_104), (5, .int m_lot), (4, .int m_high), (3, .int m_low), (0, .ref (Y 0)), (1, .int nn), (2, .int w)] → (∀ (u : Int32 × Int32 × Int32 × (Nat → Int32) × (Nat → Int32)) (H : Heap) (locs : List Loc) (ls : Array Slot), u = lX11_calm_139 nn m_kinds m_print r_market r_of m_lot_76 m_high_90 m_low_104 n x10_139 x9_139 x8_139 r_state_139 r_brings_139 → va_P D vwCl (mdW Y cI 0 m_status m_isThere m_kinds m_newKinds m_print m_low_104 m_high_90 m_lot_76 m_taped m_latest m_length m_cursor m_token m_from m_till m_fault m_faultAt m_traced r_lane r_many r_item r_market r_of r_newMarket r_newStart r_newOf r_newCoin u.2.2.2.1 u_6 r_tape u.2.2.2.2 r_seen r_seenOut r_trace ++ R) H → va_D A (mdW Y cI 0 m_status m_isThere m_kinds m_newKinds m_print m_low_104 m_high_90 m_lot_76 m_taped m_latest m_length m_cursor m_token m_from m_till m_fault m_faultAt m_traced r_lane r_many r_item r_market r_of r_newMarket r_newStart r_newOf r_newCoin u.2.2.2.1 u_6 r_tape u.2.2.2.2 r_seen r_seenOut r_trace ++ R) → va_S A s.heap H locs → lv_has ls 11 [(9, .int u.2.1), (8, .int u.2.2.1), (7, .int x7_104), (6, .int x6_104), (5, .int m_lot), (4, .int m_high), (3, .int m_low), (0, .ref (Y 0)), (1, .int nn), (2, .int w)] → W p l e (rmX 7) s m ([.ref (Y 0), .int nn, .int w] : List Value).toArray below meth c H locs 0 0 Qm (F0 m 203 ls [])) → W p l e (rmX 7) s m ([.ref (Y 0), .int nn, .int w] : List Value).toArray below meth c H locs 0 0 Qm (F0 m 139 ls []) := by
                            intro n
                            induction n with
                            | zero =>
                              intro x10_139 x9_139 x8_139 r_state_139 r_brings_139 H locs ls iv_139_0 iv_139_1 iv_139_2 hP hD hS hl kont_139
                              exfalso; omega
                            | succ n ih_139 =>
                              intro x10_139 x9_139 x8_139 r_state_139 r_brings_139 H locs ls iv_139_0 iv_139_1 iv_139_2 hP hD hS hl kont_139
                              refine lv_iload hx hb dX11_calm_139 (lv_at hl 0 rfl) ?_
                              refine lv_iload_n hx hb dX11_calm_141 rfl (lv_at hl 9 rfl) ?_
                              refine lv_icmp_ge (tgt := 203) hx hb dX11_calm_142 (by decide) (fun c_14 => ?_) (fun c_14 => ?_)
                              · have d_14 := i_le rfl rfl c_14
                                exact kont_139 (x10_139, x9_139, x8_139, r_state_139, r_brings_139) H locs ls (show lX11_calm_139 nn m_kinds m_print r_market r_of m_lot_76 m_high_90 m_low_104 (n + 1) x10_139 x9_139 x8_139 r_state_139 r_brings_139 = (x10_139, x9_139, x8_139, r_state_139, r_brings_139) from ((if_pos c_14).trans rfl)).symm  hP hD hS (lv_sub hl [1, 2, 3, 4, 5, 6, 7, 8, 9, 10] rfl)
                              · have d_14 := i_len rfl rfl c_14
                                refine lv_aload_n hx hb dX11_calm_145 rfl (lv_at hl 8 rfl) ?_
                                refine mx_callV (As := []) (rest := []) ⟨hx, hb, hml, hown, hts⟩ (mtX11_year l D cI cB cK cS Y R 0 m_status m_isThere m_kinds m_newKinds m_print m_low_104 m_high_90 m_lot_76 m_taped m_latest m_length m_cursor m_token m_from m_till m_fault m_faultAt m_traced r_lane r_many r_item r_market r_of r_newMarket r_newStart r_newOf r_newCoin r_state_139 u_6 r_tape r_brings_139 r_seen r_seenOut r_trace (by omega) (hth (by assumption))) (cwV 0 hts gX11_calm_X11_year rfl rfl rfl (by decide +kernel) ⟨Nat.le_of_ble_eq_true rfl, Nat.le_of_ble_eq_true rfl⟩) pF0_ok trivial hK hP hD hS hA 0 rfl rfl rfl rfl hl.1 rfl (Nat.le_of_ble_eq_true rfl) dX11_calm_146 ⟨Nat.le_refl _, Nat.le_refl _⟩ (fun u_15 H locs eu_15 hP hD hS => ?_)
                                refine W.eq (g2 := F0 m 149 ls []) rfl ?_
                                have hP : va_P D vwCl (mdW Y cI 0 m_status m_isThere m_kinds m_newKinds m_print m_low_104 m_high_90 m_lot_76 m_taped m_latest m_length m_cursor m_token m_from m_till m_fault m_faultAt m_traced r_lane r_many r_item r_market r_of r_newMarket r_newStart r_newOf r_newCoin u_15.1 u_6 r_tape u_15.2 r_seen r_seenOut r_trace ++ R) H := hP
                                have hD : va_D A (mdW Y cI 0 m_status m_isThere m_kinds m_newKinds m_print m_low_104 m_high_90 m_lot_76 m_taped m_latest m_length m_cursor m_token m_from m_till m_fault m_faultAt m_traced r_lane r_many r_item r_market r_of r_newMarket r_newStart r_newOf r_newCoin u_15.1 u_6 r_tape u_15.2 r_seen r_seenOut r_trace ++ R) := hD
                                refine lv_aload_n hx hb dX11_calm_149 rfl (lv_at hl 8 rfl) ?_
                                refine va_get (D := D) (ci := 9) (v := .ref (Y 14)) (C := RX11) (T := TX11) (N := 35) hx hb hts iX11 hown hK hP 0 rfl rfl 14 (by decide) k37 (fun _ h9 => h9) rfl dX11_calm_150 ?_
                                refine lv_iconst (v := 0) hx hb dX11_calm_153 (by decide) ?_
                                have q_16 : vp_in (0 : Int32) 17 := vp_in_iff.mpr (by decide)
                                refine va_iald hx hb hK hP 10 0 rfl rfl q_16 dX11_calm_154 ?_
                                refine W.eq (g2 := F0 m 155 ls [.int (u_15.1 0)]) rfl ?_
                                refine lv_iload hx hb dX11_calm_155 (lv_at hl 2 rfl) ?_
                                have J_18 : ∀ (y_18 : Int32) (H : Heap) (locs : List Loc) (ls : Array Slot), y_18 = (if (u_15.1 0) ≤ x8_139 then (x8_139) else ((u_15.1 0))) → va_P D vwCl (mdW Y cI 0 m_status m_isThere m_kinds m_newKinds m_print m_low_104 m_high_90 m_lot_76 m_taped m_latest m_length m_cursor m_token m_from m_till m_fault m_faultAt m_traced r_lane r_many r_item r_market r_of r_newMarket r_newStart r_newOf r_newCoin u_15.1 u_6 r_tape u_15.2 r_seen r_seenOut r_trace ++ R) H → va_D A (mdW Y cI 0 m_status m_isThere m_kinds m_newKinds m_print m_low_104 m_high_90 m_lot_76 m_taped m_latest m_length m_cursor m_token m_from m_till m_fault m_faultAt m_traced r_lane r_many r_item r_market r_of r_newMarket r_newStart r_newOf r_newCoin u_15.1 u_6 r_tape u_15.2 r_seen r_seenOut r_trace ++ R) → va_S A s.heap H locs → lv_has ls 11 [(10, .int x10_139), (9, .int x9_139), (7, .int x7_104), (6, .int x6_104), (5, .int m_lot), (4, .int m_high), (3, .int m_low), (0, .ref (Y 0)), (1, .int nn), (2, .int w)] → W p l e (rmX 7) s m ([.ref (Y 0), .int nn, .int w] : List Value).toArray below meth c H locs 0 0 Qm (F0 m 171 ls [.int y_18]) := by
                                  intro y_18 H locs ls ey_18 hP hD hS hl
                                  refine lv_istore (lv' := [(8, .int y_18), (10, .int x10_139), (9, .int x9_139), (7, .int x7_104), (6, .int x6_104), (5, .int m_lot), (4, .int m_high), (3, .int m_low), (0, .ref (Y 0)), (1, .int nn), (2, .int w)]) hx hb dX11_calm_171 hl (by decide) rfl (fun ls hl => ?_)
                                  refine lv_aload_n hx hb dX11_calm_173 rfl (lv_at hl 8 rfl) ?_
                                  refine va_get (D := D) (ci := 9) (v := .ref (Y 14)) (C := RX11) (T := TX11) (N := 35) hx hb hts iX11 hown hK hP 0 rfl rfl 14 (by decide) k37 (fun _ h9 => h9) rfl dX11_calm_174 ?_
                                  refine lv_iconst (v := 0) hx hb dX11_calm_177 (by decide) ?_
                                  have q_21 : vp_in (0 : Int32) 17 := vp_in_iff.mpr (by decide)
                                  refine va_iald hx hb hK hP 10 0 rfl rfl q_21 dX11_calm_178 ?_
                                  refine W.eq (g2 := F0 m 179 ls [.int (u_15.1 0)]) rfl ?_
                                  refine lv_iload hx hb dX11_calm_179 (lv_at hl 2 rfl) ?_
                                  have J_23 : ∀ (y_23 : Int32) (H : Heap) (locs : List Loc) (ls : Array Slot), y_23 = (if x9_139 ≤ (u_15.1 0) then (x9_139) else ((u_15.1 0))) → va_P D vwCl (mdW Y cI 0 m_status m_isThere m_kinds m_newKinds m_print m_low_104 m_high_90 m_lot_76 m_taped m_latest m_length m_cursor m_token m_from m_till m_fault m_faultAt m_traced r_lane r_many r_item r_market r_of r_newMarket r_newStart r_newOf r_newCoin u_15.1 u_6 r_tape u_15.2 r_seen r_seenOut r_trace ++ R) H → va_D A (mdW Y cI 0 m_status m_isThere m_kinds m_newKinds m_print m_low_104 m_high_90 m_lot_76 m_taped m_latest m_length m_cursor m_token m_from m_till m_fault m_faultAt m_traced r_lane r_many r_item r_market r_of r_newMarket r_newStart r_newOf r_newCoin u_15.1 u_6 r_tape u_15.2 r_seen r_seenOut r_trace ++ R) → va_S A s.heap H locs → lv_has ls 11 [(8, .int y_18), (10, .int x10_139), (7, .int x7_104), (6, .int x6_104), (5, .int m_lot), (4, .int m_high), (3, .int m_low), (0, .ref (Y 0)), (1, .int nn), (2, .int w)] → W p l e (rmX 7) s m ([.ref (Y 0), .int nn, .int w] : List Value).toArray below meth c H locs 0 0 Qm (F0 m 195 ls [.int y_23]) := by
                                    intro y_23 H locs ls ey_23 hP hD hS hl
                                    refine lv_istore (lv' := [(9, .int y_23), (8, .int y_18), (10, .int x10_139), (7, .int x7_104), (6, .int x6_104), (5, .int m_lot), (4, .int m_high), (3, .int m_low), (0, .ref (Y 0)), (1, .int nn), (2, .int w)]) hx hb dX11_calm_195 hl (by decide) rfl (fun ls hl => ?_)
                                    obtain ⟨x_26, ex_26⟩ : ∃ z : Int32, z = x10_139 + 1 := ⟨_, rfl⟩
                                    refine lv_iinc (v := x_26) (lv' := [(10, .int x_26), (9, .int y_23), (8, .int y_18), (7, .int x7_104), (6, .int x6_104), (5, .int m_lot), (4, .int m_high), (3, .int m_low), (0, .ref (Y 0)), (1, .int nn), (2, .int w)]) hx hb dX11_calm_197 hl (k := 2) rfl (by rw [ex_26]; rfl) (by decide) rfl (fun ls hl => ?_)
                                    refine lv_goto (tgt := 139) hx hb dX11_calm_200 (by decide) ?_
                                    have tx_26 : x_26.toInt = x10_139.toInt + 1 := i_inc ex_26 (by decide) (by omega) (by omega)
                                    refine ih_139 x_26 y_23 y_18 u_15.1 u_15.2 H locs ls (by omega) (by omega) (by omega) hP hD hS (lv_sub hl [0, 1, 2, 3, 4, 5, 6, 7, 8, 9, 10] rfl) (fun u H locs ls eu  hP hD hS hl => ?_)
                                    exact kont_139 u H locs ls (eu.trans (show lX11_calm_139 nn m_kinds m_print r_market r_of m_lot_76 m_high_90 m_low_104 (n + 1) x10_139 x9_139 x8_139 r_state_139 r_brings_139 = lX11_calm_139 nn m_kinds m_print r_market r_of m_lot_76 m_high_90 m_low_104 n x_26 y_23 y_18 u_15.1 u_15.2 from ((if_neg c_14).trans (lt_eq eu_15 (lt_eq ey_18 (lt_eq ey_23 (lt_eq ex_26 rfl)))))).symm)  hP hD hS hl
                                  refine lv_icmp_ge (tgt := 193) hx hb dX11_calm_181 (by decide) (fun c_24 => ?_) (fun c_24 => ?_)
                                  · have d_24 := i_le rfl rfl c_24
                                    refine lv_iload hx hb dX11_calm_193 (lv_at hl 2 rfl) ?_
                                    exact J_23 x9_139 H locs ls (Eq.symm ((if_pos c_24).trans rfl)) hP hD hS (lv_sub hl [0, 1, 3, 4, 5, 6, 7, 8, 9, 10] rfl)
                                  · have d_24 := i_len rfl rfl c_24
                                    refine lv_aload_n hx hb dX11_calm_184 rfl (lv_at hl 8 rfl) ?_
                                    refine va_get (D := D) (ci := 9) (v := .ref (Y 14)) (C := RX11) (T := TX11) (N := 35) hx hb hts iX11 hown hK hP 0 rfl rfl 14 (by decide) k37 (fun _ h9 => h9) rfl dX11_calm_185 ?_
                                    refine lv_iconst (v := 0) hx hb dX11_calm_188 (by decide) ?_
                                    have q_25 : vp_in (0 : Int32) 17 := vp_in_iff.mpr (by decide)
                                    refine va_iald hx hb hK hP 10 0 rfl rfl q_25 dX11_calm_189 ?_
                                    refine W.eq (g2 := F0 m 190 ls [.int (u_15.1 0)]) rfl ?_
                                    refine lv_goto (tgt := 195) hx hb dX11_calm_190 (by decide) ?_
                                    exact J_23 (u_15.1 0) H locs ls (Eq.symm ((if_neg c_24).trans rfl)) hP hD hS (lv_sub hl [0, 1, 3, 4, 5, 6, 7, 8, 9, 10] rfl)
                                refine lv_icmp_le (tgt := 169) hx hb dX11_calm_157 (by decide) (fun c_19 => ?_) (fun c_19 => ?_)
                                · have d_19 := i_le rfl rfl c_19
                                  refine lv_iload hx hb dX11_calm_169 (lv_at hl 2 rfl) ?_
                                  exact J_18 x8_139 H locs ls (Eq.symm ((if_pos c_19).trans rfl)) hP hD hS (lv_sub hl [0, 1, 3, 4, 5, 6, 7, 8, 9, 10] rfl)
                                · have d_19 := i_len rfl rfl c_19
                                  refine lv_aload_n hx hb dX11_calm_160 rfl (lv_at hl 8 rfl) ?_
                                  refine va_get (D := D) (ci := 9) (v := .ref (Y 14)) (C := RX11) (T := TX11) (N := 35) hx hb hts iX11 hown hK hP 0 rfl rfl 14 (by decide) k37 (fun _ h9 => h9) rfl dX11_calm_161 ?_
                                  refine lv_iconst (v := 0) hx hb dX11_calm_164 (by decide) ?_
                                  have q_20 : vp_in (0 : Int32) 17 := vp_in_iff.mpr (by decide)
                                  refine va_iald hx hb hK hP 10 0 rfl rfl q_20 dX11_calm_165 ?_
                                  refine W.eq (g2 := F0 m 166 ls [.int (u_15.1 0)]) rfl ?_
                                  refine lv_goto (tgt := 171) hx hb dX11_calm_166 (by decide) ?_
                                  exact J_18 (u_15.1 0) H locs ls (Eq.symm ((if_neg c_19).trans rfl)) hP hD hS (lv_sub hl [0, 1, 3, 4, 5, 6, 7, 8, 9, 10] rfl)
                          refine L_139 21 0 100 0 ar_13 r_brings_104 H locs ls (by decide) (by decide) (by decide) hP hD hS (lv_sub hl [0, 1, 2, 3, 4, 5, 6, 7, 8, 9, 10] rfl) (fun u_27 H locs ls eu_27  hP hD hS hl => ?_)
                          have hP : va_P D vwCl (mdW Y cI 0 m_status m_isThere m_kinds m_newKinds m_print m_low_104 m_high_90 m_lot_76 m_taped m_latest m_length m_cursor m_token m_from m_till m_fault m_faultAt m_traced r_lane r_many r_item r_market r_of r_newMarket r_newStart r_newOf r_newCoin u_27.2.2.2.1 u_6 r_tape u_27.2.2.2.2 r_seen r_seenOut r_trace ++ R) H := hP
                          have hD : va_D A (mdW Y cI 0 m_status m_isThere m_kinds m_newKinds m_print m_low_104 m_high_90 m_lot_76 m_taped m_latest m_length m_cursor m_token m_from m_till m_fault m_faultAt m_traced r_lane r_many r_item r_market r_of r_newMarket r_newStart r_newOf r_newCoin u_27.2.2.2.1 u_6 r_tape u_27.2.2.2.2 r_seen r_seenOut r_trace ++ R) := hD
                          refine lv_iload hx hb dX11_calm_203 (lv_at hl 1 rfl) ?_
                          refine lv_iload hx hb dX11_calm_205 (lv_at hl 0 rfl) ?_
                          refine lv_isub hx hb dX11_calm_207 ?_
                          refine lv_iload_n hx hb dX11_calm_208 rfl (lv_at hl 9 rfl) ?_
                          have J_31 : ∀ (y_31 : Int32 × Int32) (H : Heap) (locs : List Loc) (ls : Array Slot), y_31 = (if w < (u_27.2.2.1 - u_27.2.1) then ((x7_104, x6_104)) else (if x6_104 = (-1000000) then (lt (((10000 * m_lot_76) + (100 * m_high_90)) + m_low_104) (fun x_34 : Int32 => ((u_27.2.2.2.1 5), x_34))) else (if x7_104 ≤ (u_27.2.2.2.1 5) then ((x7_104, x6_104)) else (lt (((10000 * m_lot_76) + (100 * m_high_90)) + m_low_104) (fun x_38 : Int32 => ((u_27.2.2.2.1 5), x_38)))))) → va_P D vwCl (mdW Y cI 0 m_status m_isThere m_kinds m_newKinds m_print m_low_104 m_high_90 m_lot_76 m_taped m_latest m_length m_cursor m_token m_from m_till m_fault m_faultAt m_traced r_lane r_many r_item r_market r_of r_newMarket r_newStart r_newOf r_newCoin u_27.2.2.2.1 u_6 r_tape u_27.2.2.2.2 r_seen r_seenOut r_trace ++ R) H → va_D A (mdW Y cI 0 m_status m_isThere m_kinds m_newKinds m_print m_low_104 m_high_90 m_lot_76 m_taped m_latest m_length m_cursor m_token m_from m_till m_fault m_faultAt m_traced r_lane r_many r_item r_market r_of r_newMarket r_newStart r_newOf r_newCoin u_27.2.2.2.1 u_6 r_tape u_27.2.2.2.2 r_seen r_seenOut r_trace ++ R) → va_S A s.heap H locs → lv_has ls 11 [(7, .int y_31.1), (6, .int y_31.2), (5, .int m_lot), (4, .int m_high), (3, .int m_low), (0, .ref (Y 0)), (1, .int nn), (2, .int w)] → W p l e (rmX 7) s m ([.ref (Y 0), .int nn, .int w] : List Value).toArray below meth c H locs 0 0 Qm (F0 m 261 ls []) := by
                            intro y_31 H locs ls ey_31 hP hD hS hl
                            refine lv_aload_n hx hb dX11_calm_261 rfl (lv_at hl 5 rfl) ?_
                            refine mx_callV (As := []) (rest := []) ⟨hx, hb, hml, hown, hts⟩ (mtX11_comeBack l D cI cB cK cS Y R 0 m_status m_isThere m_kinds m_newKinds m_print m_low_104 m_high_90 m_lot_76 m_taped m_latest m_length m_cursor m_token m_from m_till m_fault m_faultAt m_traced r_lane r_many r_item r_market r_of r_newMarket r_newStart r_newOf r_newCoin u_27.2.2.2.1 u_6 r_tape u_27.2.2.2.2 r_seen r_seenOut r_trace) (cwV 0 hts gX11_calm_X11_comeBack rfl rfl rfl (by decide +kernel) ⟨Nat.le_of_ble_eq_true rfl, Nat.le_of_ble_eq_true rfl⟩) pF0_ok trivial hK hP hD hS hA 0 rfl rfl rfl rfl hl.1 rfl (Nat.le_of_ble_eq_true rfl) dX11_calm_262 ⟨Nat.le_refl _, Nat.le_refl _⟩ (fun u_40 H locs eu_40 hP hD hS => ?_)
                            refine W.eq (g2 := F0 m 265 ls []) rfl ?_
                            have hP : va_P D vwCl (mdW Y cI 0 m_status m_isThere m_kinds m_newKinds m_print m_low_104 m_high_90 m_lot_76 m_taped m_latest m_length m_cursor m_token m_from m_till m_fault m_faultAt m_traced r_lane r_many r_item r_market r_of r_newMarket r_newStart r_newOf r_newCoin u_40 u_6 r_tape u_27.2.2.2.2 r_seen r_seenOut r_trace ++ R) H := hP
                            have hD : va_D A (mdW Y cI 0 m_status m_isThere m_kinds m_newKinds m_print m_low_104 m_high_90 m_lot_76 m_taped m_latest m_length m_cursor m_token m_from m_till m_fault m_faultAt m_traced r_lane r_many r_item r_market r_of r_newMarket r_newStart r_newOf r_newCoin u_40 u_6 r_tape u_27.2.2.2.2 r_seen r_seenOut r_trace ++ R) := hD
                            refine lv_aload_n hx hb dX11_calm_265 rfl (lv_at hl 5 rfl) ?_
                            refine lv_dup hx hb dX11_calm_266 rfl ?_
                            refine va_get (D := D) (ci := 9) (v := .int m_low_104) (C := RX11) (T := TX11) (N := 35) hx hb hts iX11 hown hK hP 0 rfl rfl 17 (by decide) k188 (fun _ h9 => h9) rfl dX11_calm_267 ?_
                            refine lv_iconst (v := 5) hx hb dX11_calm_270 (by decide) ?_
                            refine lv_iadd hx hb dX11_calm_271 ?_
                            refine va_put (D := D) (ci := 9) (v := .int (m_low_104 + 5)) (ty := .int) (C := RX11) (T := TX11) (N := 35) hx hb hts iX11 tyX11 tyX11_ok nmX11 hown hK hP hD hS 0 rfl rfl 17 (by decide) k188 (fun _ h9 => h9) rfl (by decide +kernel) rfl rfl (Nat.le_of_ble_eq_true rfl) dX11_calm_272 (fun H locs hP hD hS => ?_)
                            have hP : va_P D vwCl (mdW Y cI 0 m_status m_isThere m_kinds m_newKinds m_print (m_low_104 + 5) m_high_90 m_lot_76 m_taped m_latest m_length m_cursor m_token m_from m_till m_fault m_faultAt m_traced r_lane r_many r_item r_market r_of r_newMarket r_newStart r_newOf r_newCoin u_40 u_6 r_tape u_27.2.2.2.2 r_seen r_seenOut r_trace ++ R) H := hP
                            have hD : va_D A (mdW Y cI 0 m_status m_isThere m_kinds m_newKinds m_print (m_low_104 + 5) m_high_90 m_lot_76 m_taped m_latest m_length m_cursor m_token m_from m_till m_fault m_faultAt m_traced r_lane r_many r_item r_market r_of r_newMarket r_newStart r_newOf r_newCoin u_40 u_6 r_tape u_27.2.2.2.2 r_seen r_seenOut r_trace ++ R) := hD
                            refine lv_goto (tgt := 104) hx hb dX11_calm_275 (by decide) ?_
                            have tf_m_low : (m_low_104 + 5).toInt = m_low_104.toInt + 5 := i_addv rfl (show (5 : Int32).toInt = 5 from by decide) (by omega) (by omega)
                            refine ih_104 y_31.1 y_31.2 (m_low_104 + 5) u_40 u_27.2.2.2.2 H locs ls (by omega) (by omega) (by omega) hP hD hS (lv_sub hl [0, 1, 2, 3, 4, 5, 6, 7] rfl) (fun u H locs ls eu  hP hD hS hl => ?_)
                            exact kont_104 u H locs ls (eu.trans (show lX11_calm_104 nn w m_kinds m_print r_market r_of u_6 m_lot_76 m_high_90 (n + 1) x7_104 x6_104 m_low_104 r_state_104 r_brings_104 = lX11_calm_104 nn w m_kinds m_print r_market r_of u_6 m_lot_76 m_high_90 n y_31.1 y_31.2 (m_low_104 + 5) u_40 u_27.2.2.2.2 from ((if_neg c_9).trans (lt_eq ear_11 (lt_eq ear_13 (lt_eq eu_27 (lt_eq ey_31 (lt_eq eu_40 rfl))))))).symm)  hP hD hS hl
                          refine lv_icmp_gt (tgt := 261) hx hb dX11_calm_209 (by decide) (fun c_32 => ?_) (fun c_32 => ?_)
                          · have d_32 := i_lt rfl rfl c_32
                            exact J_31 (x7_104, x6_104) H locs ls (Eq.symm ((if_pos c_32).trans rfl)) hP hD hS (lv_sub hl [2, 3, 4, 5, 6, 7, 8, 9] rfl)
                          · have d_32 := i_ltn rfl rfl c_32
                            refine lv_iload hx hb dX11_calm_212 (lv_at hl 3 rfl) ?_
                            refine lv_ldc (v := (-1000000)) hx hb hown k94 dX11_calm_214 ?_
                            refine lv_icmp_eq (tgt := 230) hx hb dX11_calm_216 (by decide) (fun c_33 => ?_) (fun c_33 => ?_)
                            · have d_33 := i_eq rfl (show ((-1000000) : Int32).toInt = (-1000000) from by decide) c_33
                              refine lv_sipush (v := 10000) hx hb dX11_calm_230 (by decide) ?_
                              refine lv_aload_n hx hb dX11_calm_233 rfl (lv_at hl 7 rfl) ?_
                              refine va_get (D := D) (ci := 9) (v := .int m_lot_76) (C := RX11) (T := TX11) (N := 35) hx hb hts iX11 hown hK hP 0 rfl rfl 19 (by decide) k194 (fun _ h9 => h9) rfl dX11_calm_234 ?_
                              refine lv_imul hx hb dX11_calm_237 ?_
                              refine lv_bipush (v := 100) hx hb dX11_calm_238 (by decide) ?_
                              refine lv_aload_n hx hb dX11_calm_240 rfl (lv_at hl 7 rfl) ?_
                              refine va_get (D := D) (ci := 9) (v := .int m_high_90) (C := RX11) (T := TX11) (N := 35) hx hb hts iX11 hown hK hP 0 rfl rfl 18 (by decide) k191 (fun _ h9 => h9) rfl dX11_calm_241 ?_
                              refine lv_imul hx hb dX11_calm_244 ?_
                              refine lv_iadd hx hb dX11_calm_245 ?_
                              refine lv_aload_n hx hb dX11_calm_246 rfl (lv_at hl 7 rfl) ?_
                              refine va_get (D := D) (ci := 9) (v := .int m_low_104) (C := RX11) (T := TX11) (N := 35) hx hb hts iX11 hown hK hP 0 rfl rfl 17 (by decide) k188 (fun _ h9 => h9) rfl dX11_calm_247 ?_
                              refine lv_iadd hx hb dX11_calm_250 ?_
                              refine lv_topi (fun x_34 ex_34 => ?_)
                              refine lv_istore (lv' := [(6, .int x_34), (9, .int u_27.2.1), (8, .int u_27.2.2.1), (7, .int x7_104), (5, .int m_lot), (4, .int m_high), (3, .int m_low), (0, .ref (Y 0)), (1, .int nn), (2, .int w)]) hx hb dX11_calm_251 hl (by decide) rfl (fun ls hl => ?_)
                              refine lv_aload_n hx hb dX11_calm_253 rfl (lv_at hl 7 rfl) ?_
                              refine va_get (D := D) (ci := 9) (v := .ref (Y 14)) (C := RX11) (T := TX11) (N := 35) hx hb hts iX11 hown hK hP 0 rfl rfl 14 (by decide) k37 (fun _ h9 => h9) rfl dX11_calm_254 ?_
                              refine lv_iconst (v := 5) hx hb dX11_calm_257 (by decide) ?_
                              have q_35 : vp_in (5 : Int32) 17 := vp_in_iff.mpr (by decide)
                              refine va_iald hx hb hK hP 10 0 rfl rfl q_35 dX11_calm_258 ?_
                              refine W.eq (g2 := F0 m 259 ls [.int (u_27.2.2.2.1 5)]) rfl ?_
                              refine lv_istore (lv' := [(7, .int (u_27.2.2.2.1 5)), (6, .int x_34), (9, .int u_27.2.1), (8, .int u_27.2.2.1), (5, .int m_lot), (4, .int m_high), (3, .int m_low), (0, .ref (Y 0)), (1, .int nn), (2, .int w)]) hx hb dX11_calm_259 hl (by decide) rfl (fun ls hl => ?_)
                              exact J_31 ((u_27.2.2.2.1 5), x_34) H locs ls (Eq.symm ((if_neg c_32).trans ((if_pos c_33).trans (lt_eq ex_34 rfl)))) hP hD hS (lv_sub hl [0, 1, 4, 5, 6, 7, 8, 9] rfl)
                            · have d_33 := i_eqn rfl (show ((-1000000) : Int32).toInt = (-1000000) from by decide) c_33
                              refine lv_aload_n hx hb dX11_calm_219 rfl (lv_at hl 7 rfl) ?_
                              refine va_get (D := D) (ci := 9) (v := .ref (Y 14)) (C := RX11) (T := TX11) (N := 35) hx hb hts iX11 hown hK hP 0 rfl rfl 14 (by decide) k37 (fun _ h9 => h9) rfl dX11_calm_220 ?_
                              refine lv_iconst (v := 5) hx hb dX11_calm_223 (by decide) ?_
                              have q_36 : vp_in (5 : Int32) 17 := vp_in_iff.mpr (by decide)
                              refine va_iald hx hb hK hP 10 0 rfl rfl q_36 dX11_calm_224 ?_
                              refine W.eq (g2 := F0 m 225 ls [.int (u_27.2.2.2.1 5)]) rfl ?_
                              refine lv_iload hx hb dX11_calm_225 (lv_at hl 2 rfl) ?_
                              refine lv_icmp_ge (tgt := 261) hx hb dX11_calm_227 (by decide) (fun c_37 => ?_) (fun c_37 => ?_)
                              · have d_37 := i_le rfl rfl c_37
                                exact J_31 (x7_104, x6_104) H locs ls (Eq.symm ((if_neg c_32).trans ((if_neg c_33).trans ((if_pos c_37).trans rfl)))) hP hD hS (lv_sub hl [2, 3, 4, 5, 6, 7, 8, 9] rfl)
                              · have d_37 := i_len rfl rfl c_37
                                refine lv_sipush (v := 10000) hx hb dX11_calm_230 (by decide) ?_
                                refine lv_aload_n hx hb dX11_calm_233 rfl (lv_at hl 7 rfl) ?_
                                refine va_get (D := D) (ci := 9) (v := .int m_lot_76) (C := RX11) (T := TX11) (N := 35) hx hb hts iX11 hown hK hP 0 rfl rfl 19 (by decide) k194 (fun _ h9 => h9) rfl dX11_calm_234 ?_
                                refine lv_imul hx hb dX11_calm_237 ?_
                                refine lv_bipush (v := 100) hx hb dX11_calm_238 (by decide) ?_
                                refine lv_aload_n hx hb dX11_calm_240 rfl (lv_at hl 7 rfl) ?_
                                refine va_get (D := D) (ci := 9) (v := .int m_high_90) (C := RX11) (T := TX11) (N := 35) hx hb hts iX11 hown hK hP 0 rfl rfl 18 (by decide) k191 (fun _ h9 => h9) rfl dX11_calm_241 ?_
                                refine lv_imul hx hb dX11_calm_244 ?_
                                refine lv_iadd hx hb dX11_calm_245 ?_
                                refine lv_aload_n hx hb dX11_calm_246 rfl (lv_at hl 7 rfl) ?_
                                refine va_get (D := D) (ci := 9) (v := .int m_low_104) (C := RX11) (T := TX11) (N := 35) hx hb hts iX11 hown hK hP 0 rfl rfl 17 (by decide) k188 (fun _ h9 => h9) rfl dX11_calm_247 ?_
                                refine lv_iadd hx hb dX11_calm_250 ?_
                                refine lv_topi (fun x_38 ex_38 => ?_)
                                refine lv_istore (lv' := [(6, .int x_38), (9, .int u_27.2.1), (8, .int u_27.2.2.1), (7, .int x7_104), (5, .int m_lot), (4, .int m_high), (3, .int m_low), (0, .ref (Y 0)), (1, .int nn), (2, .int w)]) hx hb dX11_calm_251 hl (by decide) rfl (fun ls hl => ?_)
                                refine lv_aload_n hx hb dX11_calm_253 rfl (lv_at hl 7 rfl) ?_
                                refine va_get (D := D) (ci := 9) (v := .ref (Y 14)) (C := RX11) (T := TX11) (N := 35) hx hb hts iX11 hown hK hP 0 rfl rfl 14 (by decide) k37 (fun _ h9 => h9) rfl dX11_calm_254 ?_
                                refine lv_iconst (v := 5) hx hb dX11_calm_257 (by decide) ?_
                                have q_39 : vp_in (5 : Int32) 17 := vp_in_iff.mpr (by decide)
                                refine va_iald hx hb hK hP 10 0 rfl rfl q_39 dX11_calm_258 ?_
                                refine W.eq (g2 := F0 m 259 ls [.int (u_27.2.2.2.1 5)]) rfl ?_
                                refine lv_istore (lv' := [(7, .int (u_27.2.2.2.1 5)), (6, .int x_38), (9, .int u_27.2.1), (8, .int u_27.2.2.1), (5, .int m_lot), (4, .int m_high), (3, .int m_low), (0, .ref (Y 0)), (1, .int nn), (2, .int w)]) hx hb dX11_calm_259 hl (by decide) rfl (fun ls hl => ?_)
                                exact J_31 ((u_27.2.2.2.1 5), x_38) H locs ls (Eq.symm ((if_neg c_32).trans ((if_neg c_33).trans ((if_neg c_37).trans (lt_eq ex_38 rfl))))) hP hD hS (lv_sub hl [0, 1, 4, 5, 6, 7, 8, 9] rfl)
                    refine L_104 13 x7_90 x6_90 0 r_state_90 r_brings_90 H locs ls (by decide) (by decide) (by decide) hP hD hS (lv_sub hl [0, 1, 2, 3, 4, 5, 6, 7] rfl) (fun u_41 H locs ls eu_41  hP hD hS hl => ?_)
                    have hP : va_P D vwCl (mdW Y cI 0 m_status m_isThere m_kinds m_newKinds m_print u_41.2.2.1 m_high_90 m_lot_76 m_taped m_latest m_length m_cursor m_token m_from m_till m_fault m_faultAt m_traced r_lane r_many r_item r_market r_of r_newMarket r_newStart r_newOf r_newCoin u_41.2.2.2.1 u_6 r_tape u_41.2.2.2.2 r_seen r_seenOut r_trace ++ R) H := hP
                    have hD : va_D A (mdW Y cI 0 m_status m_isThere m_kinds m_newKinds m_print u_41.2.2.1 m_high_90 m_lot_76 m_taped m_latest m_length m_cursor m_token m_from m_till m_fault m_faultAt m_traced r_lane r_many r_item r_market r_of r_newMarket r_newStart r_newOf r_newCoin u_41.2.2.2.1 u_6 r_tape u_41.2.2.2.2 r_seen r_seenOut r_trace ++ R) := hD
                    refine lv_aload_n hx hb dX11_calm_278 rfl (lv_at hl 5 rfl) ?_
                    refine lv_dup hx hb dX11_calm_279 rfl ?_
                    refine va_get (D := D) (ci := 9) (v := .int m_high_90) (C := RX11) (T := TX11) (N := 35) hx hb hts iX11 hown hK hP 0 rfl rfl 18 (by decide) k191 (fun _ h9 => h9) rfl dX11_calm_280 ?_
                    refine lv_iconst (v := 5) hx hb dX11_calm_283 (by decide) ?_
                    refine lv_iadd hx hb dX11_calm_284 ?_
                    refine va_put (D := D) (ci := 9) (v := .int (m_high_90 + 5)) (ty := .int) (C := RX11) (T := TX11) (N := 35) hx hb hts iX11 tyX11 tyX11_ok nmX11 hown hK hP hD hS 0 rfl rfl 18 (by decide) k191 (fun _ h9 => h9) rfl (by decide +kernel) rfl rfl (Nat.le_of_ble_eq_true rfl) dX11_calm_285 (fun H locs hP hD hS => ?_)
                    have hP : va_P D vwCl (mdW Y cI 0 m_status m_isThere m_kinds m_newKinds m_print u_41.2.2.1 (m_high_90 + 5) m_lot_76 m_taped m_latest m_length m_cursor m_token m_from m_till m_fault m_faultAt m_traced r_lane r_many r_item r_market r_of r_newMarket r_newStart r_newOf r_newCoin u_41.2.2.2.1 u_6 r_tape u_41.2.2.2.2 r_seen r_seenOut r_trace ++ R) H := hP
                    have hD : va_D A (mdW Y cI 0 m_status m_isThere m_kinds m_newKinds m_print u_41.2.2.1 (m_high_90 + 5) m_lot_76 m_taped m_latest m_length m_cursor m_token m_from m_till m_fault m_faultAt m_traced r_lane r_many r_item r_market r_of r_newMarket r_newStart r_newOf r_newCoin u_41.2.2.2.1 u_6 r_tape u_41.2.2.2.2 r_seen r_seenOut r_trace ++ R) := hD
                    refine lv_goto (tgt := 90) hx hb dX11_calm_288 (by decide) ?_
                    have tf_m_high : (m_high_90 + 5).toInt = m_high_90.toInt + 5 := i_addv rfl (show (5 : Int32).toInt = 5 from by decide) (by omega) (by omega)
                    refine ih_90 u_41.1 u_41.2.1 u_41.2.2.1 (m_high_90 + 5) u_41.2.2.2.1 u_41.2.2.2.2 H locs ls (by omega) (by omega) (by omega) hP hD hS (lv_sub hl [0, 1, 2, 3, 4, 5, 6, 7] rfl) (fun u H locs ls eu  hP hD hS hl => ?_)
                    exact kont_90 u H locs ls (eu.trans (show lX11_calm_90 nn w m_kinds m_print r_market r_of u_6 m_lot_76 (n + 1) x7_90 x6_90 m_low_90 m_high_90 r_state_90 r_brings_90 = lX11_calm_90 nn w m_kinds m_print r_market r_of u_6 m_lot_76 n u_41.1 u_41.2.1 u_41.2.2.1 (m_high_90 + 5) u_41.2.2.2.1 u_41.2.2.2.2 from ((if_neg c_8).trans (lt_eq eu_41 rfl))).symm)  hP hD hS hl
              refine L_90 11 x7_76 x6_76 m_low_76 5 r_state_76 r_brings_76 H locs ls (by decide) (by decide) (by decide) hP hD hS (lv_sub hl [0, 1, 2, 3, 4, 5, 6, 7] rfl) (fun u_42 H locs ls eu_42  hP hD hS hl => ?_)
              have hP : va_P D vwCl (mdW Y cI 0 m_status m_isThere m_kinds m_newKinds m_print u_42.2.2.1 u_42.2.2.2.1 m_lot_76 m_taped m_latest m_length m_cursor m_token m_from m_till m_fault m_faultAt m_traced r_lane r_many r_item r_market r_of r_newMarket r_newStart r_newOf r_newCoin u_42.2.2.2.2.1 u_6 r_tape u_42.2.2.2.2.2 r_seen r_seenOut r_trace ++ R) H := hP
              have hD : va_D A (mdW Y cI 0 m_status m_isThere m_kinds m_newKinds m_print u_42.2.2.1 u_42.2.2.2.1 m_lot_76 m_taped m_latest m_length m_cursor m_token m_from m_till m_fault m_faultAt m_traced r_lane r_many r_item r_market r_of r_newMarket r_newStart r_newOf r_newCoin u_42.2.2.2.2.1 u_6 r_tape u_42.2.2.2.2.2 r_seen r_seenOut r_trace ++ R) := hD
              refine lv_aload_n hx hb dX11_calm_291 rfl (lv_at hl 5 rfl) ?_
              refine lv_dup hx hb dX11_calm_292 rfl ?_
              refine va_get (D := D) (ci := 9) (v := .int m_lot_76) (C := RX11) (T := TX11) (N := 35) hx hb hts iX11 hown hK hP 0 rfl rfl 19 (by decide) k194 (fun _ h9 => h9) rfl dX11_calm_293 ?_
              refine lv_bipush (v := 10) hx hb dX11_calm_296 (by decide) ?_
              refine lv_iadd hx hb dX11_calm_298 ?_
              refine va_put (D := D) (ci := 9) (v := .int (m_lot_76 + 10)) (ty := .int) (C := RX11) (T := TX11) (N := 35) hx hb hts iX11 tyX11 tyX11_ok nmX11 hown hK hP hD hS 0 rfl rfl 19 (by decide) k194 (fun _ h9 => h9) rfl (by decide +kernel) rfl rfl (Nat.le_of_ble_eq_true rfl) dX11_calm_299 (fun H locs hP hD hS => ?_)
              have hP : va_P D vwCl (mdW Y cI 0 m_status m_isThere m_kinds m_newKinds m_print u_42.2.2.1 u_42.2.2.2.1 (m_lot_76 + 10) m_taped m_latest m_length m_cursor m_token m_from m_till m_fault m_faultAt m_traced r_lane r_many r_item r_market r_of r_newMarket r_newStart r_newOf r_newCoin u_42.2.2.2.2.1 u_6 r_tape u_42.2.2.2.2.2 r_seen r_seenOut r_trace ++ R) H := hP
              have hD : va_D A (mdW Y cI 0 m_status m_isThere m_kinds m_newKinds m_print u_42.2.2.1 u_42.2.2.2.1 (m_lot_76 + 10) m_taped m_latest m_length m_cursor m_token m_from m_till m_fault m_faultAt m_traced r_lane r_many r_item r_market r_of r_newMarket r_newStart r_newOf r_newCoin u_42.2.2.2.2.1 u_6 r_tape u_42.2.2.2.2.2 r_seen r_seenOut r_trace ++ R) := hD
              refine lv_goto (tgt := 76) hx hb dX11_calm_302 (by decide) ?_
              have tf_m_lot : (m_lot_76 + 10).toInt = m_lot_76.toInt + 10 := i_addv rfl (show (10 : Int32).toInt = 10 from by decide) (by omega) (by omega)
              refine ih_76 u_42.1 u_42.2.1 u_42.2.2.1 u_42.2.2.2.1 (m_lot_76 + 10) u_42.2.2.2.2.1 u_42.2.2.2.2.2 H locs ls (by omega) (by omega) (by omega) hP hD hS (lv_sub hl [0, 1, 2, 3, 4, 5, 6, 7] rfl) (fun u H locs ls eu  hP hD hS hl => ?_)
              exact kont_76 u H locs ls (eu.trans (show lX11_calm_76 nn w m_kinds m_print r_market r_of u_6 (n + 1) x7_76 x6_76 m_low_76 m_high_76 m_lot_76 r_state_76 r_brings_76 = lX11_calm_76 nn w m_kinds m_print r_market r_of u_6 n u_42.1 u_42.2.1 u_42.2.2.1 u_42.2.2.2.1 (m_lot_76 + 10) u_42.2.2.2.2.1 u_42.2.2.2.2.2 from ((if_neg c_7).trans (lt_eq eu_42 rfl))).symm)  hP hD hS hl
        refine L_76 4 0 (-1000000) m_low m_high 10 r_state r_brings H locs ls (by decide) (by decide) (by decide) hP hD hS (lv_sub hl [0, 1, 2, 3, 4, 5, 6, 7] rfl) (fun u_43 H locs ls eu_43  hP hD hS hl => ?_)
        have hP : va_P D vwCl (mdW Y cI 0 m_status m_isThere m_kinds m_newKinds m_print u_43.2.2.1 u_43.2.2.2.1 u_43.2.2.2.2.1 m_taped m_latest m_length m_cursor m_token m_from m_till m_fault m_faultAt m_traced r_lane r_many r_item r_market r_of r_newMarket r_newStart r_newOf r_newCoin u_43.2.2.2.2.2.1 u_6 r_tape u_43.2.2.2.2.2.2 r_seen r_seenOut r_trace ++ R) H := hP
        have hD : va_D A (mdW Y cI 0 m_status m_isThere m_kinds m_newKinds m_print u_43.2.2.1 u_43.2.2.2.1 u_43.2.2.2.2.1 m_taped m_latest m_length m_cursor m_token m_from m_till m_fault m_faultAt m_traced r_lane r_many r_item r_market r_of r_newMarket r_newStart r_newOf r_newCoin u_43.2.2.2.2.2.1 u_6 r_tape u_43.2.2.2.2.2.2 r_seen r_seenOut r_trace ++ R) := hD
        refine lv_aload_n hx hb dX11_calm_305 rfl (lv_at hl 4 rfl) ?_
        refine lv_iload_n hx hb dX11_calm_306 rfl (lv_at hl 3 rfl) ?_
        refine va_put (D := D) (ci := 9) (v := .int m_low) (ty := .int) (C := RX11) (T := TX11) (N := 35) hx hb hts iX11 tyX11 tyX11_ok nmX11 hown hK hP hD hS 0 rfl rfl 17 (by decide) k188 (fun _ h9 => h9) rfl (by decide +kernel) rfl rfl (Nat.le_of_ble_eq_true rfl) dX11_calm_307 (fun H locs hP hD hS => ?_)
        have hP : va_P D vwCl (mdW Y cI 0 m_status m_isThere m_kinds m_newKinds m_print m_low u_43.2.2.2.1 u_43.2.2.2.2.1 m_taped m_latest m_length m_cursor m_token m_from m_till m_fault m_faultAt m_traced r_lane r_many r_item r_market r_of r_newMarket r_newStart r_newOf r_newCoin u_43.2.2.2.2.2.1 u_6 r_tape u_43.2.2.2.2.2.2 r_seen r_seenOut r_trace ++ R) H := hP
        have hD : va_D A (mdW Y cI 0 m_status m_isThere m_kinds m_newKinds m_print m_low u_43.2.2.2.1 u_43.2.2.2.2.1 m_taped m_latest m_length m_cursor m_token m_from m_till m_fault m_faultAt m_traced r_lane r_many r_item r_market r_of r_newMarket r_newStart r_newOf r_newCoin u_43.2.2.2.2.2.1 u_6 r_tape u_43.2.2.2.2.2.2 r_seen r_seenOut r_trace ++ R) := hD
        refine lv_aload_n hx hb dX11_calm_310 rfl (lv_at hl 4 rfl) ?_
        refine lv_iload hx hb dX11_calm_311 (lv_at hl 2 rfl) ?_
        refine va_put (D := D) (ci := 9) (v := .int m_high) (ty := .int) (C := RX11) (T := TX11) (N := 35) hx hb hts iX11 tyX11 tyX11_ok nmX11 hown hK hP hD hS 0 rfl rfl 18 (by decide) k191 (fun _ h9 => h9) rfl (by decide +kernel) rfl rfl (Nat.le_of_ble_eq_true rfl) dX11_calm_313 (fun H locs hP hD hS => ?_)
        have hP : va_P D vwCl (mdW Y cI 0 m_status m_isThere m_kinds m_newKinds m_print m_low m_high u_43.2.2.2.2.1 m_taped m_latest m_length m_cursor m_token m_from m_till m_fault m_faultAt m_traced r_lane r_many r_item r_market r_of r_newMarket r_newStart r_newOf r_newCoin u_43.2.2.2.2.2.1 u_6 r_tape u_43.2.2.2.2.2.2 r_seen r_seenOut r_trace ++ R) H := hP
        have hD : va_D A (mdW Y cI 0 m_status m_isThere m_kinds m_newKinds m_print m_low m_high u_43.2.2.2.2.1 m_taped m_latest m_length m_cursor m_token m_from m_till m_fault m_faultAt m_traced r_lane r_many r_item r_market r_of r_newMarket r_newStart r_newOf r_newCoin u_43.2.2.2.2.2.1 u_6 r_tape u_43.2.2.2.2.2.2 r_seen r_seenOut r_trace ++ R) := hD
        refine lv_aload_n hx hb dX11_calm_316 rfl (lv_at hl 4 rfl) ?_
        refine lv_iload hx hb dX11_calm_317 (lv_at hl 1 rfl) ?_
        refine va_put (D := D) (ci := 9) (v := .int m_lot) (ty := .int) (C := RX11) (T := TX11) (N := 35) hx hb hts iX11 tyX11 tyX11_ok nmX11 hown hK hP hD hS 0 rfl rfl 19 (by decide) k194 (fun _ h9 => h9) rfl (by decide +kernel) rfl rfl (Nat.le_of_ble_eq_true rfl) dX11_calm_319 (fun H locs hP hD hS => ?_)
        have hP : va_P D vwCl (mdW Y cI 0 m_status m_isThere m_kinds m_newKinds m_print m_low m_high m_lot m_taped m_latest m_length m_cursor m_token m_from m_till m_fault m_faultAt m_traced r_lane r_many r_item r_market r_of r_newMarket r_newStart r_newOf r_newCoin u_43.2.2.2.2.2.1 u_6 r_tape u_43.2.2.2.2.2.2 r_seen r_seenOut r_trace ++ R) H := hP
        have hD : va_D A (mdW Y cI 0 m_status m_isThere m_kinds m_newKinds m_print m_low m_high m_lot m_taped m_latest m_length m_cursor m_token m_from m_till m_fault m_faultAt m_traced r_lane r_many r_item r_market r_of r_newMarket r_newStart r_newOf r_newCoin u_43.2.2.2.2.2.1 u_6 r_tape u_43.2.2.2.2.2.2 r_seen r_seenOut r_trace ++ R) := hD
        refine lv_iload hx hb dX11_calm_322 (lv_at hl 0 rfl) ?_
        rw [hQm]
        exact mx_iret (u0 := sX11_calm nn w m_isThere m_kinds m_print m_low m_high m_lot r_market r_of r_state r_kept r_brings) (rv := (fun u => some (.int u.1))) (w1 := (fun u => mdW Y cI u.2.1 m_status m_isThere m_kinds m_newKinds m_print u.2.2.1 u.2.2.2.1 u.2.2.2.2.1 m_taped m_latest m_length m_cursor m_token m_from m_till m_fault m_faultAt m_traced r_lane r_many r_item r_market r_of r_newMarket r_newStart r_newOf r_newCoin u.2.2.2.2.2.1 u.2.2.2.2.2.2.1 r_tape u.2.2.2.2.2.2.2 r_seen r_seenOut r_trace ++ R)) (u := (u_43.2.1, 0, m_low, m_high, m_lot, u_43.2.2.2.2.2.1, u_6, u_43.2.2.2.2.2.2)) hx hb hr hlocks hK hS (lt_eq eu_1 ((if_neg c_2).trans (lt_eq eu_3 ((if_neg c_4).trans ((if_neg c_5).trans (lt_eq eu_6 (lt_eq eu_43 rfl))))))) hP hD rfl dX11_calm_324
      · have d_5 := i_eq rfl (show (0 : Int32).toInt = 0 from by decide) c_5
        refine lv_ldc (v := (-1000002)) hx hb hown k231 dX11_calm_39 ?_
        rw [hQm]
        exact mx_iret (u0 := sX11_calm nn w m_isThere m_kinds m_print m_low m_high m_lot r_market r_of r_state r_kept r_brings) (rv := (fun u => some (.int u.1))) (w1 := (fun u => mdW Y cI u.2.1 m_status m_isThere m_kinds m_newKinds m_print u.2.2.1 u.2.2.2.1 u.2.2.2.2.1 m_taped m_latest m_length m_cursor m_token m_from m_till m_fault m_faultAt m_traced r_lane r_many r_item r_market r_of r_newMarket r_newStart r_newOf r_newCoin u.2.2.2.2.2.1 u.2.2.2.2.2.2.1 r_tape u.2.2.2.2.2.2.2 r_seen r_seenOut r_trace ++ R)) (u := ((-1000002), 0, m_low, m_high, m_lot, r_state, r_kept, r_brings)) hx hb hr hlocks hK hS (lt_eq eu_1 ((if_neg c_2).trans (lt_eq eu_3 ((if_neg c_4).trans ((if_pos c_5).trans rfl))))) hP hD rfl dX11_calm_41
    · have d_4 := i_eq rfl (show (0 : Int32).toInt = 0 from by decide) c_4
      refine lv_ldc (v := (-1000001)) hx hb hown k78 dX11_calm_29 ?_
      rw [hQm]
      exact mx_iret (u0 := sX11_calm nn w m_isThere m_kinds m_print m_low m_high m_lot r_market r_of r_state r_kept r_brings) (rv := (fun u => some (.int u.1))) (w1 := (fun u => mdW Y cI u.2.1 m_status m_isThere m_kinds m_newKinds m_print u.2.2.1 u.2.2.2.1 u.2.2.2.2.1 m_taped m_latest m_length m_cursor m_token m_from m_till m_fault m_faultAt m_traced r_lane r_many r_item r_market r_of r_newMarket r_newStart r_newOf r_newCoin u.2.2.2.2.2.1 u.2.2.2.2.2.2.1 r_tape u.2.2.2.2.2.2.2 r_seen r_seenOut r_trace ++ R)) (u := ((-1000001), 0, m_low, m_high, m_lot, r_state, r_kept, r_brings)) hx hb hr hlocks hK hS (lt_eq eu_1 ((if_neg c_2).trans (lt_eq eu_3 ((if_pos c_4).trans rfl)))) hP hD rfl dX11_calm_31
