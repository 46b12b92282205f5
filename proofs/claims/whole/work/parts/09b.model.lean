theorem lt_P {α β : Type} {v : α} {f : α → β} (P : α → Prop) (Q : β → Prop) (hv : P v) (hf : ∀ x, P x → Q (f x)) : Q (lt v f) := hf v hv
theorem if_P {β : Type} {c : Prop} [Decidable c] {x y : β} (Q : β → Prop) (hx : c → Q x) (hy : ¬ c → Q y) : Q (if c then x else y) := by
  split
  · exact hx (by assumption)
  · exact hy (by assumption)
theorem sX11_markOf_ok {k a m_print m_traced : Int32} {r_of r_trace : Nat → Int32} {u : Int32 × Int32 × (Nat → Int32)} (h : tr_ok m_traced) (e : u = sX11_markOf k a m_print m_traced r_of r_trace) : tr_ok u.2.1 := by
  subst e
  unfold sX11_markOf
  refine lt_P (fun y : Int32 × (Nat → Int32) => tr_ok y.1) (fun z : Int32 × Int32 × (Nat → Int32) => tr_ok z.2.1) ?_ (fun y1 h1 => ?_)
  · exact if_P (fun y : Int32 × (Nat → Int32) => tr_ok y.1) (fun _ => sX11_began_ok h rfl) (fun _ => h)
  refine lt_P (fun y : Int32 × (Nat → Int32) => tr_ok y.1) (fun z : Int32 × Int32 × (Nat → Int32) => tr_ok z.2.1) ?_ (fun y4 h4 => ?_)
  · refine if_P (fun y : Int32 × (Nat → Int32) => tr_ok y.1) (fun _ => ?_) (fun _ => ?_)
    · exact sX11_began_ok h1 rfl
    · exact if_P (fun y : Int32 × (Nat → Int32) => tr_ok y.1) (fun _ => h1) (fun _ => sX11_began_ok h1 rfl)
  refine lt_P (fun y : Int32 × (Nat → Int32) => tr_ok y.1) (fun z : Int32 × Int32 × (Nat → Int32) => tr_ok z.2.1) (sX11_began_ok h4 rfl) (fun u14 h14 => ?_)
  refine lt_P (fun _ => True) (fun z : Int32 × Int32 × (Nat → Int32) => tr_ok z.2.1) trivial (fun y15 _ => ?_)
  refine lt_P (fun _ => True) (fun z : Int32 × Int32 × (Nat → Int32) => tr_ok z.2.1) trivial (fun x20 _ => ?_)
  exact if_P (fun y : Int32 × Int32 × (Nat → Int32) => tr_ok y.2.1) (fun _ => sX11_wiseSize_ok (u := sX11_wiseSize k u14.1 r_of u14.2) h14 rfl) (fun _ => h14)
def sX11_sizeOf (k : Int32) (a : Int32) (m_print : Int32) (m_traced : Int32) (r_of : Nat → Int32) (r_trace : Nat → Int32) : Int32 × (Int32) × (Nat → Int32) := if a = 6 then (lt (sX11_wiseSize k m_traced r_of r_trace) (fun u_24 : Int32 × (Int32) × (Nat → Int32) => (u_24.1, u_24.2.1, u_24.2.2))) else (lt (if a = 4 then (lt (sX11_began 13 m_traced r_trace) (fun u_4 : (Int32) × (Nat → Int32) => (u_4.1, u_4.2))) else ((m_traced, r_trace))) (fun y_2 : Int32 × (Nat → Int32) => lt (sX11_isOf a 3) (fun u_5 : Int32 => lt (if u_5 = 0 then ((y_2.1, y_2.2)) else (lt (sX11_began 12 y_2.1 y_2.2) (fun u_8 : (Int32) × (Nat → Int32) => (u_8.1, u_8.2)))) (fun y_6 : Int32 × (Nat → Int32) => lt (sX11_isOf a 1) (fun u_9 : Int32 => lt (if u_9 = 0 then ((y_6.1, y_6.2)) else (lt (sX11_began 11 y_6.1 y_6.2) (fun u_12 : (Int32) × (Nat → Int32) => (u_12.1, u_12.2)))) (fun y_10 : Int32 × (Nat → Int32) => lt (sX11_began 10 y_10.1 y_10.2) (fun u_13 : (Int32) × (Nat → Int32) => lt (sX11_told k 2 r_of) (fun u_14 : Int32 => lt (sX11_isOf a 1) (fun u_15 : Int32 => lt (if u_15 = 0 then ((0, u_13.1, u_13.2)) else (lt (sX11_markOf k a m_print u_13.1 r_of u_13.2) (fun u_18 : Int32 × (Int32) × (Nat → Int32) => (u_18.1, u_18.2.1, u_18.2.2)))) (fun y_16 : Int32 × Int32 × (Nat → Int32) => lt (u_14 + y_16.1) (fun x_19 : Int32 => lt (sX11_isOf a 3) (fun u_20 : Int32 => lt (if u_20 = 0 then (x_19) else ((2 * x_19))) (fun y_21 : Int32 => if a = 4 then ((-y_21, y_16.2.1, y_16.2.2)) else ((y_21, y_16.2.1, y_16.2.2)))))))))))))))
set_option maxHeartbeats 4000000 in
set_option maxRecDepth 100000 in
theorem mtX11_sizeOf (l : Launch) (D : va_G) (cI cB cK cS : ClassId) (Y : Nat → Nat) (R : va_W) (m_thrown : Int32) (m_status : Int32) (m_isThere : Int32) (m_kinds : Int32) (m_newKinds : Int32) (m_print : Int32) (m_low : Int32) (m_high : Int32) (m_lot : Int32) (m_taped : Int32) (m_latest : Int32) (m_length : Int32) (m_cursor : Int32) (m_token : Int32) (m_from : Int32) (m_till : Int32) (m_fault : Int32) (m_faultAt : Int32) (m_traced : Int32) (r_lane : Nat → Int32) (r_many : Nat → Int32) (r_item : Nat → Int32) (r_market : Nat → Int32) (r_of : Nat → Int32) (r_newMarket : Nat → Int32) (r_newStart : Nat → Int32) (r_newOf : Nat → Int32) (r_newCoin : Nat → Int32) (r_state : Nat → Int32) (r_kept : Nat → Int32) (r_tape : Nat → Int32) (r_brings : Nat → Int32) (r_seen : Nat → Int32) (r_seenOut : Nat → Int32) (r_trace : Nat → Int32) (k : Int32) (a : Int32) (hk0 : 0 ≤ k.toInt) (hk5 : k.toInt < 5) (htr : tr_ok m_traced) : MX l yX11_sizeOf wsX11_sizeOf (rmX 4) D (tyX cI cB cK cS) pF0 (mdW Y cI m_thrown m_status m_isThere m_kinds m_newKinds m_print m_low m_high m_lot m_taped m_latest m_length m_cursor m_token m_from m_till m_fault m_faultAt m_traced r_lane r_many r_item r_market r_of r_newMarket r_newStart r_newOf r_newCoin r_state r_kept r_tape r_brings r_seen r_seenOut r_trace ++ R) [.ref (Y 0), .int k, .int a] (sX11_sizeOf k a m_print m_traced r_of r_trace) (fun u => some (.int u.1)) (fun u => mdW Y cI m_thrown m_status m_isThere m_kinds m_newKinds m_print m_low m_high m_lot m_taped m_latest m_length m_cursor m_token m_from m_till m_fault m_faultAt u.2.1 r_lane r_many r_item r_market r_of r_newMarket r_newStart r_newOf r_newCoin r_state r_kept r_tape r_brings r_seen r_seenOut u.2.2 ++ R) := by
  refine mx_intro (cc := cX11_sizeOf) (maxL := 4) (ret := (some .int)) (by decide) rfl (Nat.le_of_ble_eq_true rfl) ?_
  intro p e s m below meth c A ls H locs Qm hQm hx hb hr hml hts hown hlocks hA hS hP hK hD hF hl
  have hown : s.vm.findClass RX11 = some m.cls := hown
  have hl : lv_has ls 4 [(0, .ref (Y 0)), (1, .int k), (2, .int a)] := hl
  refine lv_iload_n hx hb dX11_sizeOf_0 rfl (lv_at hl 2 rfl) ?_
  refine lv_bipush (v := 6) hx hb dX11_sizeOf_1 (by decide) ?_
  refine lv_icmp_ne (tgt := 12) hx hb dX11_sizeOf_3 (by decide) (fun c_1 => ?_) (fun c_1 => ?_)
  · have d_1 := i_eqn rfl (show (6 : Int32).toInt = 6 from by decide) c_1
    refine lv_iload_n hx hb dX11_sizeOf_12 rfl (lv_at hl 2 rfl) ?_
    refine lv_iconst (v := 4) hx hb dX11_sizeOf_13 (by decide) ?_
    have J_2 : ∀ (y_2 : Int32 × (Nat → Int32)) (H : Heap) (locs : List Loc) (ls : Array Slot), y_2 = (if a = 4 then (lt (sX11_began 13 m_traced r_trace) (fun u_4 : (Int32) × (Nat → Int32) => (u_4.1, u_4.2))) else ((m_traced, r_trace))) → va_P D vwCl (mdW Y cI m_thrown m_status m_isThere m_kinds m_newKinds m_print m_low m_high m_lot m_taped m_latest m_length m_cursor m_token m_from m_till m_fault m_faultAt y_2.1 r_lane r_many r_item r_market r_of r_newMarket r_newStart r_newOf r_newCoin r_state r_kept r_tape r_brings r_seen r_seenOut y_2.2 ++ R) H → va_D A (mdW Y cI m_thrown m_status m_isThere m_kinds m_newKinds m_print m_low m_high m_lot m_taped m_latest m_length m_cursor m_token m_from m_till m_fault m_faultAt y_2.1 r_lane r_many r_item r_market r_of r_newMarket r_newStart r_newOf r_newCoin r_state r_kept r_tape r_brings r_seen r_seenOut y_2.2 ++ R) → va_S A s.heap H locs → lv_has ls 4 [(0, .ref (Y 0)), (1, .int k), (2, .int a)] → W p l e (rmX 4) s m ([.ref (Y 0), .int k, .int a] : List Value).toArray below meth c H locs 0 0 Qm (F0 m 23 ls []) := by
      intro y_2 H locs ls ey_2 hP hD hS hl
      have hb_y_2 : tr_ok y_2.1 := by rw [ey_2]; simp only [lt]; (repeat' split) <;> first | assumption | exact sX11_began_ok (by assumption) rfl | exact sX11_markOf_ok (by assumption) rfl
      refine lv_iload_n hx hb dX11_sizeOf_23 rfl (lv_at hl 2 rfl) ?_
      refine lv_iconst (v := 3) hx hb dX11_sizeOf_24 (by decide) ?_
      refine mx_callS (As := [.int a, .int 3]) (rest := []) ⟨hx, hb, hml, hown, hts⟩ (mtX11_isOf l D cI cB cK cS (mdW Y cI m_thrown m_status m_isThere m_kinds m_newKinds m_print m_low m_high m_lot m_taped m_latest m_length m_cursor m_token m_from m_till m_fault m_faultAt y_2.1 r_lane r_many r_item r_market r_of r_newMarket r_newStart r_newOf r_newCoin r_state r_kept r_tape r_brings r_seen r_seenOut y_2.2 ++ R) a 3) (va_cwS 2 hts gX11_sizeOf_X11_isOf rfl rfl rfl (by decide +kernel) ⟨Nat.le_of_ble_eq_true rfl, Nat.le_of_ble_eq_true rfl⟩) pF0_ok trivial hK hP hD hS hA rfl hl.1 rfl (Nat.le_of_ble_eq_true rfl) dX11_sizeOf_25 ⟨Nat.le_refl _, Nat.le_refl _⟩ (fun u_5 H locs eu_5 hP hD hS => ?_)
      refine W.eq (g2 := F0 m 28 ls [.int u_5]) rfl ?_
      have hP : va_P D vwCl (mdW Y cI m_thrown m_status m_isThere m_kinds m_newKinds m_print m_low m_high m_lot m_taped m_latest m_length m_cursor m_token m_from m_till m_fault m_faultAt y_2.1 r_lane r_many r_item r_market r_of r_newMarket r_newStart r_newOf r_newCoin r_state r_kept r_tape r_brings r_seen r_seenOut y_2.2 ++ R) H := hP
      have hD : va_D A (mdW Y cI m_thrown m_status m_isThere m_kinds m_newKinds m_print m_low m_high m_lot m_taped m_latest m_length m_cursor m_token m_from m_till m_fault m_faultAt y_2.1 r_lane r_many r_item r_market r_of r_newMarket r_newStart r_newOf r_newCoin r_state r_kept r_tape r_brings r_seen r_seenOut y_2.2 ++ R) := hD
      have J_6 : ∀ (y_6 : Int32 × (Nat → Int32)) (H : Heap) (locs : List Loc) (ls : Array Slot), y_6 = (if u_5 = 0 then ((y_2.1, y_2.2)) else (lt (sX11_began 12 y_2.1 y_2.2) (fun u_8 : (Int32) × (Nat → Int32) => (u_8.1, u_8.2)))) → va_P D vwCl (mdW Y cI m_thrown m_status m_isThere m_kinds m_newKinds m_print m_low m_high m_lot m_taped m_latest m_length m_cursor m_token m_from m_till m_fault m_faultAt y_6.1 r_lane r_many r_item r_market r_of r_newMarket r_newStart r_newOf r_newCoin r_state r_kept r_tape r_brings r_seen r_seenOut y_6.2 ++ R) H → va_D A (mdW Y cI m_thrown m_status m_isThere m_kinds m_newKinds m_print m_low m_high m_lot m_taped m_latest m_length m_cursor m_token m_from m_till m_fault m_faultAt y_6.1 r_lane r_many r_item r_market r_of r_newMarket r_newStart r_newOf r_newCoin r_state r_kept r_tape r_brings r_seen r_seenOut y_6.2 ++ R) → va_S A s.heap H locs → lv_has ls 4 [(0, .ref (Y 0)), (1, .int k), (2, .int a)] → W p l e (rmX 4) s m ([.ref (Y 0), .int k, .int a] : List Value).toArray below meth c H locs 0 0 Qm (F0 m 37 ls []) := by
        intro y_6 H locs ls ey_6 hP hD hS hl
        have hb_y_6 : tr_ok y_6.1 := by rw [ey_6]; simp only [lt]; (repeat' split) <;> first | assumption | exact sX11_began_ok (by assumption) rfl | exact sX11_markOf_ok (by assumption) rfl
        refine lv_iload_n hx hb dX11_sizeOf_37 rfl (lv_at hl 2 rfl) ?_
        refine lv_iconst (v := 1) hx hb dX11_sizeOf_38 (by decide) ?_
        refine mx_callS (As := [.int a, .int 1]) (rest := []) ⟨hx, hb, hml, hown, hts⟩ (mtX11_isOf l D cI cB cK cS (mdW Y cI m_thrown m_status m_isThere m_kinds m_newKinds m_print m_low m_high m_lot m_taped m_latest m_length m_cursor m_token m_from m_till m_fault m_faultAt y_6.1 r_lane r_many r_item r_market r_of r_newMarket r_newStart r_newOf r_newCoin r_state r_kept r_tape r_brings r_seen r_seenOut y_6.2 ++ R) a 1) (va_cwS 2 hts gX11_sizeOf_X11_isOf rfl rfl rfl (by decide +kernel) ⟨Nat.le_of_ble_eq_true rfl, Nat.le_of_ble_eq_true rfl⟩) pF0_ok trivial hK hP hD hS hA rfl hl.1 rfl (Nat.le_of_ble_eq_true rfl) dX11_sizeOf_39 ⟨Nat.le_refl _, Nat.le_refl _⟩ (fun u_9 H locs eu_9 hP hD hS => ?_)
        refine W.eq (g2 := F0 m 42 ls [.int u_9]) rfl ?_
        have hP : va_P D vwCl (mdW Y cI m_thrown m_status m_isThere m_kinds m_newKinds m_print m_low m_high m_lot m_taped m_latest m_length m_cursor m_token m_from m_till m_fault m_faultAt y_6.1 r_lane r_many r_item r_market r_of r_newMarket r_newStart r_newOf r_newCoin r_state r_kept r_tape r_brings r_seen r_seenOut y_6.2 ++ R) H := hP
        have hD : va_D A (mdW Y cI m_thrown m_status m_isThere m_kinds m_newKinds m_print m_low m_high m_lot m_taped m_latest m_length m_cursor m_token m_from m_till m_fault m_faultAt y_6.1 r_lane r_many r_item r_market r_of r_newMarket r_newStart r_newOf r_newCoin r_state r_kept r_tape r_brings r_seen r_seenOut y_6.2 ++ R) := hD
        have J_10 : ∀ (y_10 : Int32 × (Nat → Int32)) (H : Heap) (locs : List Loc) (ls : Array Slot), y_10 = (if u_9 = 0 then ((y_6.1, y_6.2)) else (lt (sX11_began 11 y_6.1 y_6.2) (fun u_12 : (Int32) × (Nat → Int32) => (u_12.1, u_12.2)))) → va_P D vwCl (mdW Y cI m_thrown m_status m_isThere m_kinds m_newKinds m_print m_low m_high m_lot m_taped m_latest m_length m_cursor m_token m_from m_till m_fault m_faultAt y_10.1 r_lane r_many r_item r_market r_of r_newMarket r_newStart r_newOf r_newCoin r_state r_kept r_tape r_brings r_seen r_seenOut y_10.2 ++ R) H → va_D A (mdW Y cI m_thrown m_status m_isThere m_kinds m_newKinds m_print m_low m_high m_lot m_taped m_latest m_length m_cursor m_token m_from m_till m_fault m_faultAt y_10.1 r_lane r_many r_item r_market r_of r_newMarket r_newStart r_newOf r_newCoin r_state r_kept r_tape r_brings r_seen r_seenOut y_10.2 ++ R) → va_S A s.heap H locs → lv_has ls 4 [(0, .ref (Y 0)), (1, .int k), (2, .int a)] → W p l e (rmX 4) s m ([.ref (Y 0), .int k, .int a] : List Value).toArray below meth c H locs 0 0 Qm (F0 m 51 ls []) := by
          intro y_10 H locs ls ey_10 hP hD hS hl
          have hb_y_10 : tr_ok y_10.1 := by rw [ey_10]; simp only [lt]; (repeat' split) <;> first | assumption | exact sX11_began_ok (by assumption) rfl | exact sX11_markOf_ok (by assumption) rfl
          refine lv_aload_n hx hb dX11_sizeOf_51 rfl (lv_at hl 0 rfl) ?_
          refine lv_bipush (v := 10) hx hb dX11_sizeOf_52 (by decide) ?_
          refine mx_callV (As := [.int 10]) (rest := []) ⟨hx, hb, hml, hown, hts⟩ (mtX11_began l D cI cB cK cS Y R m_thrown m_status m_isThere m_kinds m_newKinds m_print m_low m_high m_lot m_taped m_latest m_length m_cursor m_token m_from m_till m_fault m_faultAt y_10.1 r_lane r_many r_item r_market r_of r_newMarket r_newStart r_newOf r_newCoin r_state r_kept r_tape r_brings r_seen r_seenOut y_10.2 10 (by first | assumption | omega)) (cwV 1 hts gX11_sizeOf_X11_began rfl rfl rfl (by decide +kernel) ⟨Nat.le_of_ble_eq_true rfl, Nat.le_of_ble_eq_true rfl⟩) pF0_ok trivial hK hP hD hS hA 0 rfl rfl rfl rfl hl.1 rfl (Nat.le_of_ble_eq_true rfl) dX11_sizeOf_54 ⟨Nat.le_refl _, Nat.le_refl _⟩ (fun u_13 H locs eu_13 hP hD hS => ?_)
          refine W.eq (g2 := F0 m 57 ls []) rfl ?_
          have hP : va_P D vwCl (mdW Y cI m_thrown m_status m_isThere m_kinds m_newKinds m_print m_low m_high m_lot m_taped m_latest m_length m_cursor m_token m_from m_till m_fault m_faultAt u_13.1 r_lane r_many r_item r_market r_of r_newMarket r_newStart r_newOf r_newCoin r_state r_kept r_tape r_brings r_seen r_seenOut u_13.2 ++ R) H := hP
          have hD : va_D A (mdW Y cI m_thrown m_status m_isThere m_kinds m_newKinds m_print m_low m_high m_lot m_taped m_latest m_length m_cursor m_token m_from m_till m_fault m_faultAt u_13.1 r_lane r_many r_item r_market r_of r_newMarket r_newStart r_newOf r_newCoin r_state r_kept r_tape r_brings r_seen r_seenOut u_13.2 ++ R) := hD
          have hb_u_13 := sX11_began_ok (by assumption) eu_13
          refine lv_aload_n hx hb dX11_sizeOf_57 rfl (lv_at hl 0 rfl) ?_
          refine lv_iload_n hx hb dX11_sizeOf_58 rfl (lv_at hl 1 rfl) ?_
          refine lv_iconst (v := 2) hx hb dX11_sizeOf_59 (by decide) ?_
          refine mx_callV (As := [.int k, .int 2]) (rest := []) ⟨hx, hb, hml, hown, hts⟩ (mtX11_told l D cI cB cK cS Y R m_thrown m_status m_isThere m_kinds m_newKinds m_print m_low m_high m_lot m_taped m_latest m_length m_cursor m_token m_from m_till m_fault m_faultAt u_13.1 r_lane r_many r_item r_market r_of r_newMarket r_newStart r_newOf r_newCoin r_state r_kept r_tape r_brings r_seen r_seenOut u_13.2 k 2 (vp_in_iff.mpr (by rw [show (6 * k + 2).toInt = ((6 * k.toInt) + 2) from (i_addv (i_mulv (show (6 : Int32).toInt = 6 from by decide) rfl (by omega) (by omega)) (show (2 : Int32).toInt = 2 from by decide) (by omega) (by omega))]; constructor <;> omega))) (cwV 2 hts gX11_sizeOf_X11_told rfl rfl rfl (by decide +kernel) ⟨Nat.le_of_ble_eq_true rfl, Nat.le_of_ble_eq_true rfl⟩) pF0_ok trivial hK hP hD hS hA 0 rfl rfl rfl rfl hl.1 rfl (Nat.le_of_ble_eq_true rfl) dX11_sizeOf_60 ⟨Nat.le_refl _, Nat.le_refl _⟩ (fun u_14 H locs eu_14 hP hD hS => ?_)
          refine W.eq (g2 := F0 m 63 ls [.int u_14]) rfl ?_
          have hP : va_P D vwCl (mdW Y cI m_thrown m_status m_isThere m_kinds m_newKinds m_print m_low m_high m_lot m_taped m_latest m_length m_cursor m_token m_from m_till m_fault m_faultAt u_13.1 r_lane r_many r_item r_market r_of r_newMarket r_newStart r_newOf r_newCoin r_state r_kept r_tape r_brings r_seen r_seenOut u_13.2 ++ R) H := hP
          have hD : va_D A (mdW Y cI m_thrown m_status m_isThere m_kinds m_newKinds m_print m_low m_high m_lot m_taped m_latest m_length m_cursor m_token m_from m_till m_fault m_faultAt u_13.1 r_lane r_many r_item r_market r_of r_newMarket r_newStart r_newOf r_newCoin r_state r_kept r_tape r_brings r_seen r_seenOut u_13.2 ++ R) := hD
          refine lv_iload_n hx hb dX11_sizeOf_63 rfl (lv_at hl 2 rfl) ?_
          refine lv_iconst (v := 1) hx hb dX11_sizeOf_64 (by decide) ?_
          refine mx_callS (As := [.int a, .int 1]) (rest := [.int u_14]) ⟨hx, hb, hml, hown, hts⟩ (mtX11_isOf l D cI cB cK cS (mdW Y cI m_thrown m_status m_isThere m_kinds m_newKinds m_print m_low m_high m_lot m_taped m_latest m_length m_cursor m_token m_from m_till m_fault m_faultAt u_13.1 r_lane r_many r_item r_market r_of r_newMarket r_newStart r_newOf r_newCoin r_state r_kept r_tape r_brings r_seen r_seenOut u_13.2 ++ R) a 1) (va_cwS 2 hts gX11_sizeOf_X11_isOf rfl rfl rfl (by decide +kernel) ⟨Nat.le_of_ble_eq_true rfl, Nat.le_of_ble_eq_true rfl⟩) pF0_ok trivial hK hP hD hS hA rfl hl.1 rfl (Nat.le_of_ble_eq_true rfl) dX11_sizeOf_65 ⟨Nat.le_refl _, Nat.le_refl _⟩ (fun u_15 H locs eu_15 hP hD hS => ?_)
          refine W.eq (g2 := F0 m 68 ls [.int u_15, .int u_14]) rfl ?_
          have hP : va_P D vwCl (mdW Y cI m_thrown m_status m_isThere m_kinds m_newKinds m_print m_low m_high m_lot m_taped m_latest m_length m_cursor m_token m_from m_till m_fault m_faultAt u_13.1 r_lane r_many r_item r_market r_of r_newMarket r_newStart r_newOf r_newCoin r_state r_kept r_tape r_brings r_seen r_seenOut u_13.2 ++ R) H := hP
          have hD : va_D A (mdW Y cI m_thrown m_status m_isThere m_kinds m_newKinds m_print m_low m_high m_lot m_taped m_latest m_length m_cursor m_token m_from m_till m_fault m_faultAt u_13.1 r_lane r_many r_item r_market r_of r_newMarket r_newStart r_newOf r_newCoin r_state r_kept r_tape r_brings r_seen r_seenOut u_13.2 ++ R) := hD
          have J_16 : ∀ (y_16 : Int32 × Int32 × (Nat → Int32)) (H : Heap) (locs : List Loc) (ls : Array Slot), y_16 = (if u_15 = 0 then ((0, u_13.1, u_13.2)) else (lt (sX11_markOf k a m_print u_13.1 r_of u_13.2) (fun u_18 : Int32 × (Int32) × (Nat → Int32) => (u_18.1, u_18.2.1, u_18.2.2)))) → va_P D vwCl (mdW Y cI m_thrown m_status m_isThere m_kinds m_newKinds m_print m_low m_high m_lot m_taped m_latest m_length m_cursor m_token m_from m_till m_fault m_faultAt y_16.2.1 r_lane r_many r_item r_market r_of r_newMarket r_newStart r_newOf r_newCoin r_state r_kept r_tape r_brings r_seen r_seenOut y_16.2.2 ++ R) H → va_D A (mdW Y cI m_thrown m_status m_isThere m_kinds m_newKinds m_print m_low m_high m_lot m_taped m_latest m_length m_cursor m_token m_from m_till m_fault m_faultAt y_16.2.1 r_lane r_many r_item r_market r_of r_newMarket r_newStart r_newOf r_newCoin r_state r_kept r_tape r_brings r_seen r_seenOut y_16.2.2 ++ R) → va_S A s.heap H locs → lv_has ls 4 [(2, .int a)] → W p l e (rmX 4) s m ([.ref (Y 0), .int k, .int a] : List Value).toArray below meth c H locs 0 0 Qm (F0 m 81 ls [.int y_16.1, .int u_14]) := by
            intro y_16 H locs ls ey_16 hP hD hS hl
            have hb_y_16 : tr_ok y_16.2.1 := by rw [ey_16]; simp only [lt]; (repeat' split) <;> first | assumption | exact sX11_began_ok (by assumption) rfl | exact sX11_markOf_ok (by assumption) rfl
            refine lv_iadd hx hb dX11_sizeOf_81 ?_
            refine lv_topi (fun x_19 ex_19 => ?_)
            refine lv_istore_n (lv' := [(3, .int x_19), (2, .int a)]) hx hb dX11_sizeOf_82 rfl hl (by decide) rfl (fun ls hl => ?_)
            refine lv_iload_n hx hb dX11_sizeOf_83 rfl (lv_at hl 1 rfl) ?_
            refine lv_iconst (v := 3) hx hb dX11_sizeOf_84 (by decide) ?_
            refine mx_callS (As := [.int a, .int 3]) (rest := []) ⟨hx, hb, hml, hown, hts⟩ (mtX11_isOf l D cI cB cK cS (mdW Y cI m_thrown m_status m_isThere m_kinds m_newKinds m_print m_low m_high m_lot m_taped m_latest m_length m_cursor m_token m_from m_till m_fault m_faultAt y_16.2.1 r_lane r_many r_item r_market r_of r_newMarket r_newStart r_newOf r_newCoin r_state r_kept r_tape r_brings r_seen r_seenOut y_16.2.2 ++ R) a 3) (va_cwS 2 hts gX11_sizeOf_X11_isOf rfl rfl rfl (by decide +kernel) ⟨Nat.le_of_ble_eq_true rfl, Nat.le_of_ble_eq_true rfl⟩) pF0_ok trivial hK hP hD hS hA rfl hl.1 rfl (Nat.le_of_ble_eq_true rfl) dX11_sizeOf_85 ⟨Nat.le_refl _, Nat.le_refl _⟩ (fun u_20 H locs eu_20 hP hD hS => ?_)
            refine W.eq (g2 := F0 m 88 ls [.int u_20]) rfl ?_
            have hP : va_P D vwCl (mdW Y cI m_thrown m_status m_isThere m_kinds m_newKinds m_print m_low m_high m_lot m_taped m_latest m_length m_cursor m_token m_from m_till m_fault m_faultAt y_16.2.1 r_lane r_many r_item r_market r_of r_newMarket r_newStart r_newOf r_newCoin r_state r_kept r_tape r_brings r_seen r_seenOut y_16.2.2 ++ R) H := hP
            have hD : va_D A (mdW Y cI m_thrown m_status m_isThere m_kinds m_newKinds m_print m_low m_high m_lot m_taped m_latest m_length m_cursor m_token m_from m_till m_fault m_faultAt y_16.2.1 r_lane r_many r_item r_market r_of r_newMarket r_newStart r_newOf r_newCoin r_state r_kept r_tape r_brings r_seen r_seenOut y_16.2.2 ++ R) := hD
            have J_21 : ∀ (y_21 : Int32) (H : Heap) (locs : List Loc) (ls : Array Slot), y_21 = (if u_20 = 0 then (x_19) else ((2 * x_19))) → va_P D vwCl (mdW Y cI m_thrown m_status m_isThere m_kinds m_newKinds m_print m_low m_high m_lot m_taped m_latest m_length m_cursor m_token m_from m_till m_fault m_faultAt y_16.2.1 r_lane r_many r_item r_market r_of r_newMarket r_newStart r_newOf r_newCoin r_state r_kept r_tape r_brings r_seen r_seenOut y_16.2.2 ++ R) H → va_D A (mdW Y cI m_thrown m_status m_isThere m_kinds m_newKinds m_print m_low m_high m_lot m_taped m_latest m_length m_cursor m_token m_from m_till m_fault m_faultAt y_16.2.1 r_lane r_many r_item r_market r_of r_newMarket r_newStart r_newOf r_newCoin r_state r_kept r_tape r_brings r_seen r_seenOut y_16.2.2 ++ R) → va_S A s.heap H locs → lv_has ls 4 [(2, .int a)] → W p l e (rmX 4) s m ([.ref (Y 0), .int k, .int a] : List Value).toArray below meth c H locs 0 0 Qm (F0 m 98 ls [.int y_21]) := by
              intro y_21 H locs ls ey_21 hP hD hS hl
              refine lv_istore_n (lv' := [(3, .int y_21), (2, .int a)]) hx hb dX11_sizeOf_98 rfl hl (by decide) rfl (fun ls hl => ?_)
              refine lv_iload_n hx hb dX11_sizeOf_99 rfl (lv_at hl 1 rfl) ?_
              refine lv_iconst (v := 4) hx hb dX11_sizeOf_100 (by decide) ?_
              refine lv_icmp_ne (tgt := 109) hx hb dX11_sizeOf_101 (by decide) (fun c_23 => ?_) (fun c_23 => ?_)
              · have d_23 := i_eqn rfl (show (4 : Int32).toInt = 4 from by decide) c_23
                refine lv_iload_n hx hb dX11_sizeOf_109 rfl (lv_at hl 0 rfl) ?_
                rw [hQm]
                exact mx_iret (u0 := sX11_sizeOf k a m_print m_traced r_of r_trace) (rv := (fun u => some (.int u.1))) (w1 := (fun u => mdW Y cI m_thrown m_status m_isThere m_kinds m_newKinds m_print m_low m_high m_lot m_taped m_latest m_length m_cursor m_token m_from m_till m_fault m_faultAt u.2.1 r_lane r_many r_item r_market r_of r_newMarket r_newStart r_newOf r_newCoin r_state r_kept r_tape r_brings r_seen r_seenOut u.2.2 ++ R)) (u := (y_21, y_16.2.1, y_16.2.2)) hx hb hr hlocks hK hS ((if_neg c_1).trans (lt_eq ey_2 (lt_eq eu_5 (lt_eq ey_6 (lt_eq eu_9 (lt_eq ey_10 (lt_eq eu_13 (lt_eq eu_14 (lt_eq eu_15 (lt_eq ey_16 (lt_eq ex_19 (lt_eq eu_20 (lt_eq ey_21 ((if_neg c_23).trans rfl)))))))))))))) hP hD rfl dX11_sizeOf_110
              · have d_23 := i_eq rfl (show (4 : Int32).toInt = 4 from by decide) c_23
                refine lv_iload_n hx hb dX11_sizeOf_104 rfl (lv_at hl 0 rfl) ?_
                refine lv_ineg hx hb dX11_sizeOf_105 ?_
                refine lv_goto (tgt := 110) hx hb dX11_sizeOf_106 (by decide) ?_
                rw [hQm]
                exact mx_iret (u0 := sX11_sizeOf k a m_print m_traced r_of r_trace) (rv := (fun u => some (.int u.1))) (w1 := (fun u => mdW Y cI m_thrown m_status m_isThere m_kinds m_newKinds m_print m_low m_high m_lot m_taped m_latest m_length m_cursor m_token m_from m_till m_fault m_faultAt u.2.1 r_lane r_many r_item r_market r_of r_newMarket r_newStart r_newOf r_newCoin r_state r_kept r_tape r_brings r_seen r_seenOut u.2.2 ++ R)) (u := (-y_21, y_16.2.1, y_16.2.2)) hx hb hr hlocks hK hS ((if_neg c_1).trans (lt_eq ey_2 (lt_eq eu_5 (lt_eq ey_6 (lt_eq eu_9 (lt_eq ey_10 (lt_eq eu_13 (lt_eq eu_14 (lt_eq eu_15 (lt_eq ey_16 (lt_eq ex_19 (lt_eq eu_20 (lt_eq ey_21 ((if_pos c_23).trans rfl)))))))))))))) hP hD rfl dX11_sizeOf_110
            refine lv_if_eq (tgt := 97) hx hb dX11_sizeOf_88 (by decide) (fun c_22 => ?_) (fun c_22 => ?_)
            · have d_22 := i_eq rfl (show (0 : Int32).toInt = 0 from by decide) c_22
              refine lv_iload_n hx hb dX11_sizeOf_97 rfl (lv_at hl 0 rfl) ?_
              exact J_21 x_19 H locs ls (Eq.symm ((if_pos c_22).trans rfl)) hP hD hS (lv_sub hl [1] rfl)
            · have d_22 := i_eqn rfl (show (0 : Int32).toInt = 0 from by decide) c_22
              refine lv_iconst (v := 2) hx hb dX11_sizeOf_91 (by decide) ?_
              refine lv_iload_n hx hb dX11_sizeOf_92 rfl (lv_at hl 0 rfl) ?_
              refine lv_imul hx hb dX11_sizeOf_93 ?_
              refine lv_goto (tgt := 98) hx hb dX11_sizeOf_94 (by decide) ?_
              exact J_21 (2 * x_19) H locs ls (Eq.symm ((if_neg c_22).trans rfl)) hP hD hS (lv_sub hl [1] rfl)
          refine lv_if_eq (tgt := 80) hx hb dX11_sizeOf_68 (by decide) (fun c_17 => ?_) (fun c_17 => ?_)
          · have d_17 := i_eq rfl (show (0 : Int32).toInt = 0 from by decide) c_17
            refine lv_iconst (v := 0) hx hb dX11_sizeOf_80 (by decide) ?_
            exact J_16 (0, u_13.1, u_13.2) H locs ls (Eq.symm ((if_pos c_17).trans rfl)) hP hD hS (lv_sub hl [2] rfl)
          · have d_17 := i_eqn rfl (show (0 : Int32).toInt = 0 from by decide) c_17
            refine lv_aload_n hx hb dX11_sizeOf_71 rfl (lv_at hl 0 rfl) ?_
            refine lv_iload_n hx hb dX11_sizeOf_72 rfl (lv_at hl 1 rfl) ?_
            refine lv_iload_n hx hb dX11_sizeOf_73 rfl (lv_at hl 2 rfl) ?_
            refine mx_callV (As := [.int k, .int a]) (rest := [.int u_14]) ⟨hx, hb, hml, hown, hts⟩ (mtX11_markOf l D cI cB cK cS Y R m_thrown m_status m_isThere m_kinds m_newKinds m_print m_low m_high m_lot m_taped m_latest m_length m_cursor m_token m_from m_till m_fault m_faultAt u_13.1 r_lane r_many r_item r_market r_of r_newMarket r_newStart r_newOf r_newCoin r_state r_kept r_tape r_brings r_seen r_seenOut u_13.2 k a (by first | assumption | omega) (by first | assumption | omega) (by first | assumption | omega)) (cwV 2 hts gX11_sizeOf_X11_markOf rfl rfl rfl (by decide +kernel) ⟨Nat.le_of_ble_eq_true rfl, Nat.le_of_ble_eq_true rfl⟩) pF0_ok trivial hK hP hD hS hA 0 rfl rfl rfl rfl hl.1 rfl (Nat.le_of_ble_eq_true rfl) dX11_sizeOf_74 ⟨Nat.le_refl _, Nat.le_refl _⟩ (fun u_18 H locs eu_18 hP hD hS => ?_)
            refine W.eq (g2 := F0 m 77 ls [.int u_18.1, .int u_14]) rfl ?_
            have hP : va_P D vwCl (mdW Y cI m_thrown m_status m_isThere m_kinds m_newKinds m_print m_low m_high m_lot m_taped m_latest m_length m_cursor m_token m_from m_till m_fault m_faultAt u_18.2.1 r_lane r_many r_item r_market r_of r_newMarket r_newStart r_newOf r_newCoin r_state r_kept r_tape r_brings r_seen r_seenOut u_18.2.2 ++ R) H := hP
            have hD : va_D A (mdW Y cI m_thrown m_status m_isThere m_kinds m_newKinds m_print m_low m_high m_lot m_taped m_latest m_length m_cursor m_token m_from m_till m_fault m_faultAt u_18.2.1 r_lane r_many r_item r_market r_of r_newMarket r_newStart r_newOf r_newCoin r_state r_kept r_tape r_brings r_seen r_seenOut u_18.2.2 ++ R) := hD
            have hb_u_18 := sX11_markOf_ok (by assumption) eu_18
            refine lv_goto (tgt := 81) hx hb dX11_sizeOf_77 (by decide) ?_
            exact J_16 (u_18.1, u_18.2.1, u_18.2.2) H locs ls (Eq.symm ((if_neg c_17).trans (lt_eq eu_18 rfl))) hP hD hS (lv_sub hl [2] rfl)
        refine lv_if_eq (tgt := 51) hx hb dX11_sizeOf_42 (by decide) (fun c_11 => ?_) (fun c_11 => ?_)
        · have d_11 := i_eq rfl (show (0 : Int32).toInt = 0 from by decide) c_11
          exact J_10 (y_6.1, y_6.2) H locs ls (Eq.symm ((if_pos c_11).trans rfl)) hP hD hS (lv_sub hl [0, 1, 2] rfl)
        · have d_11 := i_eqn rfl (show (0 : Int32).toInt = 0 from by decide) c_11
          refine lv_aload_n hx hb dX11_sizeOf_45 rfl (lv_at hl 0 rfl) ?_
          refine lv_bipush (v := 11) hx hb dX11_sizeOf_46 (by decide) ?_
          refine mx_callV (As := [.int 11]) (rest := []) ⟨hx, hb, hml, hown, hts⟩ (mtX11_began l D cI cB cK cS Y R m_thrown m_status m_isThere m_kinds m_newKinds m_print m_low m_high m_lot m_taped m_latest m_length m_cursor m_token m_from m_till m_fault m_faultAt y_6.1 r_lane r_many r_item r_market r_of r_newMarket r_newStart r_newOf r_newCoin r_state r_kept r_tape r_brings r_seen r_seenOut y_6.2 11 (by first | assumption | omega)) (cwV 1 hts gX11_sizeOf_X11_began rfl rfl rfl (by decide +kernel) ⟨Nat.le_of_ble_eq_true rfl, Nat.le_of_ble_eq_true rfl⟩) pF0_ok trivial hK hP hD hS hA 0 rfl rfl rfl rfl hl.1 rfl (Nat.le_of_ble_eq_true rfl) dX11_sizeOf_48 ⟨Nat.le_refl _, Nat.le_refl _⟩ (fun u_12 H locs eu_12 hP hD hS => ?_)
          refine W.eq (g2 := F0 m 51 ls []) rfl ?_
          have hP : va_P D vwCl (mdW Y cI m_thrown m_status m_isThere m_kinds m_newKinds m_print m_low m_high m_lot m_taped m_latest m_length m_cursor m_token m_from m_till m_fault m_faultAt u_12.1 r_lane r_many r_item r_market r_of r_newMarket r_newStart r_newOf r_newCoin r_state r_kept r_tape r_brings r_seen r_seenOut u_12.2 ++ R) H := hP
          have hD : va_D A (mdW Y cI m_thrown m_status m_isThere m_kinds m_newKinds m_print m_low m_high m_lot m_taped m_latest m_length m_cursor m_token m_from m_till m_fault m_faultAt u_12.1 r_lane r_many r_item r_market r_of r_newMarket r_newStart r_newOf r_newCoin r_state r_kept r_tape r_brings r_seen r_seenOut u_12.2 ++ R) := hD
          have hb_u_12 := sX11_began_ok (by assumption) eu_12
          exact J_10 (u_12.1, u_12.2) H locs ls (Eq.symm ((if_neg c_11).trans (lt_eq eu_12 rfl))) hP hD hS (lv_sub hl [0, 1, 2] rfl)
      refine lv_if_eq (tgt := 37) hx hb dX11_sizeOf_28 (by decide) (fun c_7 => ?_) (fun c_7 => ?_)
      · have d_7 := i_eq rfl (show (0 : Int32).toInt = 0 from by decide) c_7
        exact J_6 (y_2.1, y_2.2) H locs ls (Eq.symm ((if_pos c_7).trans rfl)) hP hD hS (lv_sub hl [0, 1, 2] rfl)
      · have d_7 := i_eqn rfl (show (0 : Int32).toInt = 0 from by decide) c_7
        refine lv_aload_n hx hb dX11_sizeOf_31 rfl (lv_at hl 0 rfl) ?_
        refine lv_bipush (v := 12) hx hb dX11_sizeOf_32 (by decide) ?_
        refine mx_callV (As := [.int 12]) (rest := []) ⟨hx, hb, hml, hown, hts⟩ (mtX11_began l D cI cB cK cS Y R m_thrown m_status m_isThere m_kinds m_newKinds m_print m_low m_high m_lot m_taped m_latest m_length m_cursor m_token m_from m_till m_fault m_faultAt y_2.1 r_lane r_many r_item r_market r_of r_newMarket r_newStart r_newOf r_newCoin r_state r_kept r_tape r_brings r_seen r_seenOut y_2.2 12 (by first | assumption | omega)) (cwV 1 hts gX11_sizeOf_X11_began rfl rfl rfl (by decide +kernel) ⟨Nat.le_of_ble_eq_true rfl, Nat.le_of_ble_eq_true rfl⟩) pF0_ok trivial hK hP hD hS hA 0 rfl rfl rfl rfl hl.1 rfl (Nat.le_of_ble_eq_true rfl) dX11_sizeOf_34 ⟨Nat.le_refl _, Nat.le_refl _⟩ (fun u_8 H locs eu_8 hP hD hS => ?_)
        refine W.eq (g2 := F0 m 37 ls []) rfl ?_
        have hP : va_P D vwCl (mdW Y cI m_thrown m_status m_isThere m_kinds m_newKinds m_print m_low m_high m_lot m_taped m_latest m_length m_cursor m_token m_from m_till m_fault m_faultAt u_8.1 r_lane r_many r_item r_market r_of r_newMarket r_newStart r_newOf r_newCoin r_state r_kept r_tape r_brings r_seen r_seenOut u_8.2 ++ R) H := hP
        have hD : va_D A (mdW Y cI m_thrown m_status m_isThere m_kinds m_newKinds m_print m_low m_high m_lot m_taped m_latest m_length m_cursor m_token m_from m_till m_fault m_faultAt u_8.1 r_lane r_many r_item r_market r_of r_newMarket r_newStart r_newOf r_newCoin r_state r_kept r_tape r_brings r_seen r_seenOut u_8.2 ++ R) := hD
        have hb_u_8 := sX11_began_ok (by assumption) eu_8
        exact J_6 (u_8.1, u_8.2) H locs ls (Eq.symm ((if_neg c_7).trans (lt_eq eu_8 rfl))) hP hD hS (lv_sub hl [0, 1, 2] rfl)
    refine lv_icmp_ne (tgt := 23) hx hb dX11_sizeOf_14 (by decide) (fun c_3 => ?_) (fun c_3 => ?_)
    · have d_3 := i_eqn rfl (show (4 : Int32).toInt = 4 from by decide) c_3
      exact J_2 (m_traced, r_trace) H locs ls (Eq.symm ((if_neg c_3).trans rfl)) hP hD hS (lv_sub hl [0, 1, 2] rfl)
    · have d_3 := i_eq rfl (show (4 : Int32).toInt = 4 from by decide) c_3
      refine lv_aload_n hx hb dX11_sizeOf_17 rfl (lv_at hl 0 rfl) ?_
      refine lv_bipush (v := 13) hx hb dX11_sizeOf_18 (by decide) ?_
      refine mx_callV (As := [.int 13]) (rest := []) ⟨hx, hb, hml, hown, hts⟩ (mtX11_began l D cI cB cK cS Y R m_thrown m_status m_isThere m_kinds m_newKinds m_print m_low m_high m_lot m_taped m_latest m_length m_cursor m_token m_from m_till m_fault m_faultAt m_traced r_lane r_many r_item r_market r_of r_newMarket r_newStart r_newOf r_newCoin r_state r_kept r_tape r_brings r_seen r_seenOut r_trace 13 (by first | assumption | omega)) (cwV 1 hts gX11_sizeOf_X11_began rfl rfl rfl (by decide +kernel) ⟨Nat.le_of_ble_eq_true rfl, Nat.le_of_ble_eq_true rfl⟩) pF0_ok trivial hK hP hD hS hA 0 rfl rfl rfl rfl hl.1 rfl (Nat.le_of_ble_eq_true rfl) dX11_sizeOf_20 ⟨Nat.le_refl _, Nat.le_refl _⟩ (fun u_4 H locs eu_4 hP hD hS => ?_)
      refine W.eq (g2 := F0 m 23 ls []) rfl ?_
      have hP : va_P D vwCl (mdW Y cI m_thrown m_status m_isThere m_kinds m_newKinds m_print m_low m_high m_lot m_taped m_latest m_length m_cursor m_token m_from m_till m_fault m_faultAt u_4.1 r_lane r_many r_item r_market r_of r_newMarket r_newStart r_newOf r_newCoin r_state r_kept r_tape r_brings r_seen r_seenOut u_4.2 ++ R) H := hP
      have hD : va_D A (mdW Y cI m_thrown m_status m_isThere m_kinds m_newKinds m_print m_low m_high m_lot m_taped m_latest m_length m_cursor m_token m_from m_till m_fault m_faultAt u_4.1 r_lane r_many r_item r_market r_of r_newMarket r_newStart r_newOf r_newCoin r_state r_kept r_tape r_brings r_seen r_seenOut u_4.2 ++ R) := hD
      have hb_u_4 := sX11_began_ok (by assumption) eu_4
      exact J_2 (u_4.1, u_4.2) H locs ls (Eq.symm ((if_pos c_3).trans (lt_eq eu_4 rfl))) hP hD hS (lv_sub hl [0, 1, 2] rfl)
  · have d_1 := i_eq rfl (show (6 : Int32).toInt = 6 from by decide) c_1
    refine lv_aload_n hx hb dX11_sizeOf_6 rfl (lv_at hl 0 rfl) ?_
    refine lv_iload_n hx hb dX11_sizeOf_7 rfl (lv_at hl 1 rfl) ?_
    refine mx_callV (As := [.int k]) (rest := []) ⟨hx, hb, hml, hown, hts⟩ (mtX11_wiseSize l D cI cB cK cS Y R m_thrown m_status m_isThere m_kinds m_newKinds m_print m_low m_high m_lot m_taped m_latest m_length m_cursor m_token m_from m_till m_fault m_faultAt m_traced r_lane r_many r_item r_market r_of r_newMarket r_newStart r_newOf r_newCoin r_state r_kept r_tape r_brings r_seen r_seenOut r_trace k (by first | assumption | omega) (by first | assumption | omega) (by first | assumption | omega)) (cwV 1 hts gX11_sizeOf_X11_wiseSize rfl rfl rfl (by decide +kernel) ⟨Nat.le_of_ble_eq_true rfl, Nat.le_of_ble_eq_true rfl⟩) pF0_ok trivial hK hP hD hS hA 0 rfl rfl rfl rfl hl.1 rfl (Nat.le_of_ble_eq_true rfl) dX11_sizeOf_8 ⟨Nat.le_refl _, Nat.le_refl _⟩ (fun u_24 H locs eu_24 hP hD hS => ?_)
    refine W.eq (g2 := F0 m 11 ls [.int u_24.1]) rfl ?_
    have hP : va_P D vwCl (mdW Y cI m_thrown m_status m_isThere m_kinds m_newKinds m_print m_low m_high m_lot m_taped m_latest m_length m_cursor m_token m_from m_till m_fault m_faultAt u_24.2.1 r_lane r_many r_item r_market r_of r_newMarket r_newStart r_newOf r_newCoin r_state r_kept r_tape r_brings r_seen r_seenOut u_24.2.2 ++ R) H := hP
    have hD : va_D A (mdW Y cI m_thrown m_status m_isThere m_kinds m_newKinds m_print m_low m_high m_lot m_taped m_latest m_length m_cursor m_token m_from m_till m_fault m_faultAt u_24.2.1 r_lane r_many r_item r_market r_of r_newMarket r_newStart r_newOf r_newCoin r_state r_kept r_tape r_brings r_seen r_seenOut u_24.2.2 ++ R) := hD
    have hb_u_24 := sX11_wiseSize_ok (by assumption) eu_24
    rw [hQm]
    exact mx_iret (u0 := sX11_sizeOf k a m_print m_traced r_of r_trace) (rv := (fun u => some (.int u.1))) (w1 := (fun u => mdW Y cI m_thrown m_status m_isThere m_kinds m_newKinds m_print m_low m_high m_lot m_taped m_latest m_length m_cursor m_token m_from m_till m_fault m_faultAt u.2.1 r_lane r_many r_item r_market r_of r_newMarket r_newStart r_newOf r_newCoin r_state r_kept r_tape r_brings r_seen r_seenOut u.2.2 ++ R)) (u := (u_24.1, u_24.2.1, u_24.2.2)) hx hb hr hlocks hK hS ((if_pos c_1).trans (lt_eq eu_24 rfl)) hP hD rfl dX11_sizeOf_11

def sX11_ask (k : Int32) (a : Int32) (m_kinds : Int32) (m_print : Int32) (m_traced : Int32) (r_of : Nat → Int32) (r_trace : Nat → Int32) : Int32 × (Int32) × (Int32) × (Nat → Int32) := lt (sX11_isKind k m_kinds) (fun u_1 : Int32 => if u_1 = 0 then (((-1000001), 0, m_traced, r_trace)) else (lt (sX11_in a.toInt64 0 1) (fun u_3 : Int32 => if u_3 = 0 then (((-1000001), 0, m_traced, r_trace)) else (if a = 0 then (lt (sX11_told k 0 r_of) (fun u_8 : Int32 => lt (sX11_sizeOf k u_8 m_print 0 r_of r_trace) (fun u_9 : Int32 × (Int32) × (Nat → Int32) => (u_9.1, 0, u_9.2.1, u_9.2.2)))) else (lt (sX11_told k 0 r_of) (fun u_6 : Int32 => lt (sX11_markOf k u_6 m_print 0 r_of r_trace) (fun u_7 : Int32 × (Int32) × (Nat → Int32) => (u_7.1, 0, u_7.2.1, u_7.2.2))))))))
set_option maxHeartbeats 4000000 in
set_option maxRecDepth 100000 in
theorem mtX11_ask (l : Launch) (D : va_G) (cI cB cK cS : ClassId) (Y : Nat → Nat) (R : va_W) (m_thrown : Int32) (m_status : Int32) (m_isThere : Int32) (m_kinds : Int32) (m_newKinds : Int32) (m_print : Int32) (m_low : Int32) (m_high : Int32) (m_lot : Int32) (m_taped : Int32) (m_latest : Int32) (m_length : Int32) (m_cursor : Int32) (m_token : Int32) (m_from : Int32) (m_till : Int32) (m_fault : Int32) (m_faultAt : Int32) (m_traced : Int32) (r_lane : Nat → Int32) (r_many : Nat → Int32) (r_item : Nat → Int32) (r_market : Nat → Int32) (r_of : Nat → Int32) (r_newMarket : Nat → Int32) (r_newStart : Nat → Int32) (r_newOf : Nat → Int32) (r_newCoin : Nat → Int32) (r_state : Nat → Int32) (r_kept : Nat → Int32) (r_tape : Nat → Int32) (r_brings : Nat → Int32) (r_seen : Nat → Int32) (r_seenOut : Nat → Int32) (r_trace : Nat → Int32) (k : Int32) (a : Int32) (hkd0 : 0 ≤ m_kinds.toInt) (hkd : m_kinds.toInt ≤ 5) : MX l yX11_ask wsX11_ask (rmX 5) D (tyX cI cB cK cS) pF0 (mdW Y cI m_thrown m_status m_isThere m_kinds m_newKinds m_print m_low m_high m_lot m_taped m_latest m_length m_cursor m_token m_from m_till m_fault m_faultAt m_traced r_lane r_many r_item r_market r_of r_newMarket r_newStart r_newOf r_newCoin r_state r_kept r_tape r_brings r_seen r_seenOut r_trace ++ R) [.ref (Y 0), .int k, .int a] (sX11_ask k a m_kinds m_print m_traced r_of r_trace) (fun u => some (.int u.1)) (fun u => mdW Y cI u.2.1 m_status m_isThere m_kinds m_newKinds m_print m_low m_high m_lot m_taped m_latest m_length m_cursor m_token m_from m_till m_fault m_faultAt u.2.2.1 r_lane r_many r_item r_market r_of r_newMarket r_newStart r_newOf r_newCoin r_state r_kept r_tape r_brings r_seen r_seenOut u.2.2.2 ++ R) := by
  refine mx_intro (cc := cX11_ask) (maxL := 3) (ret := (some .int)) (by decide) rfl (Nat.le_of_ble_eq_true rfl) ?_
  intro p e s m below meth c A ls H locs Qm hQm hx hb hr hml hts hown hlocks hA hS hP hK hD hF hl
  have hown : s.vm.findClass RX11 = some m.cls := hown
  have hl : lv_has ls 3 [(0, .ref (Y 0)), (1, .int k), (2, .int a)] := hl
  have k58 := hts (.fieldLink RX11 58 "PigRoundsModel" "thrown" "I") (by decide +kernel)
  have k78 := hts (.constant RX11 78 (-1000001)) (by decide +kernel)
  have k277 := hts (.fieldLink RX11 277 "PigRoundsModel" "traced" "I") (by decide +kernel)
  have iX11 : ∀ w ∈ u_ws RX11 TX11 35, w ∈ wsX11_ask := by decide +kernel
  refine lv_aload_n hx hb dX11_ask_0 rfl (lv_at hl 0 rfl) ?_
  refine lv_iconst (v := 0) hx hb dX11_ask_1 (by decide) ?_
  refine va_put (D := D) (ci := 9) (v := .int 0) (ty := .int) (C := RX11) (T := TX11) (N := 35) hx hb hts iX11 tyX11 tyX11_ok nmX11 hown hK hP hD hS 0 rfl rfl 0 (by decide) k58 (fun _ h9 => h9) rfl (by decide +kernel) rfl rfl (Nat.le_of_ble_eq_true rfl) dX11_ask_2 (fun H locs hP hD hS => ?_)
  have hP : va_P D vwCl (mdW Y cI 0 m_status m_isThere m_kinds m_newKinds m_print m_low m_high m_lot m_taped m_latest m_length m_cursor m_token m_from m_till m_fault m_faultAt m_traced r_lane r_many r_item r_market r_of r_newMarket r_newStart r_newOf r_newCoin r_state r_kept r_tape r_brings r_seen r_seenOut r_trace ++ R) H := hP
  have hD : va_D A (mdW Y cI 0 m_status m_isThere m_kinds m_newKinds m_print m_low m_high m_lot m_taped m_latest m_length m_cursor m_token m_from m_till m_fault m_faultAt m_traced r_lane r_many r_item r_market r_of r_newMarket r_newStart r_newOf r_newCoin r_state r_kept r_tape r_brings r_seen r_seenOut r_trace ++ R) := hD
  refine lv_aload_n hx hb dX11_ask_5 rfl (lv_at hl 0 rfl) ?_
  refine lv_iload_n hx hb dX11_ask_6 rfl (lv_at hl 1 rfl) ?_
  refine mx_callV (As := [.int k]) (rest := []) ⟨hx, hb, hml, hown, hts⟩ (mtX11_isKind l D cI cB cK cS Y R 0 m_status m_isThere m_kinds m_newKinds m_print m_low m_high m_lot m_taped m_latest m_length m_cursor m_token m_from m_till m_fault m_faultAt m_traced r_lane r_many r_item r_market r_of r_newMarket r_newStart r_newOf r_newCoin r_state r_kept r_tape r_brings r_seen r_seenOut r_trace k) (cwV 1 hts gX11_ask_X11_isKind rfl rfl rfl (by decide +kernel) ⟨Nat.le_of_ble_eq_true rfl, Nat.le_of_ble_eq_true rfl⟩) pF0_ok trivial hK hP hD hS hA 0 rfl rfl rfl rfl hl.1 rfl (Nat.le_of_ble_eq_true rfl) dX11_ask_7 ⟨Nat.le_refl _, Nat.le_refl _⟩ (fun u_1 H locs eu_1 hP hD hS => ?_)
  refine W.eq (g2 := F0 m 10 ls [.int u_1]) rfl ?_
  have hP : va_P D vwCl (mdW Y cI 0 m_status m_isThere m_kinds m_newKinds m_print m_low m_high m_lot m_taped m_latest m_length m_cursor m_token m_from m_till m_fault m_faultAt m_traced r_lane r_many r_item r_market r_of r_newMarket r_newStart r_newOf r_newCoin r_state r_kept r_tape r_brings r_seen r_seenOut r_trace ++ R) H := hP
  have hD : va_D A (mdW Y cI 0 m_status m_isThere m_kinds m_newKinds m_print m_low m_high m_lot m_taped m_latest m_length m_cursor m_token m_from m_till m_fault m_faultAt m_traced r_lane r_many r_item r_market r_of r_newMarket r_newStart r_newOf r_newCoin r_state r_kept r_tape r_brings r_seen r_seenOut r_trace ++ R) := hD
  refine lv_if_eq (tgt := 23) hx hb dX11_ask_10 (by decide) (fun c_2 => ?_) (fun c_2 => ?_)
  · have d_2 := i_eq rfl (show (0 : Int32).toInt = 0 from by decide) c_2
    refine lv_ldc (v := (-1000001)) hx hb hown k78 dX11_ask_23 ?_
    rw [hQm]
    exact mx_iret (u0 := sX11_ask k a m_kinds m_print m_traced r_of r_trace) (rv := (fun u => some (.int u.1))) (w1 := (fun u => mdW Y cI u.2.1 m_status m_isThere m_kinds m_newKinds m_print m_low m_high m_lot m_taped m_latest m_length m_cursor m_token m_from m_till m_fault m_faultAt u.2.2.1 r_lane r_many r_item r_market r_of r_newMarket r_newStart r_newOf r_newCoin r_state r_kept r_tape r_brings r_seen r_seenOut u.2.2.2 ++ R)) (u := ((-1000001), 0, m_traced, r_trace)) hx hb hr hlocks hK hS (lt_eq eu_1 ((if_pos c_2).trans rfl)) hP hD rfl dX11_ask_25
  · have d_2 := i_eqn rfl (show (0 : Int32).toInt = 0 from by decide) c_2
    have dt_2 := sX11_isKind_t hkd0 eu_1 c_2
    refine lv_iload_n hx hb dX11_ask_13 rfl (lv_at hl 2 rfl) ?_
    refine lv_i2l (v := a.toInt64) hx hb dX11_ask_14 rfl ?_
    refine lv_lconst (v := 0) hx hb dX11_ask_15 (by decide) ?_
    refine lv_lconst (v := 1) hx hb dX11_ask_16 (by decide) ?_
    refine mx_callS (As := [.long a.toInt64, .long 0, .long 1]) (rest := []) ⟨hx, hb, hml, hown, hts⟩ (mtX11_in l D cI cB cK cS (mdW Y cI 0 m_status m_isThere m_kinds m_newKinds m_print m_low m_high m_lot m_taped m_latest m_length m_cursor m_token m_from m_till m_fault m_faultAt m_traced r_lane r_many r_item r_market r_of r_newMarket r_newStart r_newOf r_newCoin r_state r_kept r_tape r_brings r_seen r_seenOut r_trace ++ R) a.toInt64 0 1) (va_cwS 3 hts gX11_ask_X11_in rfl rfl rfl (by decide +kernel) ⟨Nat.le_of_ble_eq_true rfl, Nat.le_of_ble_eq_true rfl⟩) pF0_ok trivial hK hP hD hS hA rfl hl.1 rfl (Nat.le_of_ble_eq_true rfl) dX11_ask_17 ⟨Nat.le_refl _, Nat.le_refl _⟩ (fun u_3 H locs eu_3 hP hD hS => ?_)
    refine W.eq (g2 := F0 m 20 ls [.int u_3]) rfl ?_
    have hP : va_P D vwCl (mdW Y cI 0 m_status m_isThere m_kinds m_newKinds m_print m_low m_high m_lot m_taped m_latest m_length m_cursor m_token m_from m_till m_fault m_faultAt m_traced r_lane r_many r_item r_market r_of r_newMarket r_newStart r_newOf r_newCoin r_state r_kept r_tape r_brings r_seen r_seenOut r_trace ++ R) H := hP
    have hD : va_D A (mdW Y cI 0 m_status m_isThere m_kinds m_newKinds m_print m_low m_high m_lot m_taped m_latest m_length m_cursor m_token m_from m_till m_fault m_faultAt m_traced r_lane r_many r_item r_market r_of r_newMarket r_newStart r_newOf r_newCoin r_state r_kept r_tape r_brings r_seen r_seenOut r_trace ++ R) := hD
    refine lv_if_ne (tgt := 26) hx hb dX11_ask_20 (by decide) (fun c_4 => ?_) (fun c_4 => ?_)
    · have d_4 := i_eqn rfl (show (0 : Int32).toInt = 0 from by decide) c_4
      have dt_4 := sX11_in_t ((Int32.toInt_toInt64 _).trans rfl) (show (0 : Int64).toInt = 0 from by decide) (show (1 : Int64).toInt = 1 from by decide) eu_3 c_4
      refine lv_aload_n hx hb dX11_ask_26 rfl (lv_at hl 0 rfl) ?_
      refine lv_iconst (v := 0) hx hb dX11_ask_27 (by decide) ?_
      refine va_put (D := D) (ci := 9) (v := .int 0) (ty := .int) (C := RX11) (T := TX11) (N := 35) hx hb hts iX11 tyX11 tyX11_ok nmX11 hown hK hP hD hS 0 rfl rfl 34 (by decide) k277 (fun _ h9 => h9) rfl (by decide +kernel) rfl rfl (Nat.le_of_ble_eq_true rfl) dX11_ask_28 (fun H locs hP hD hS => ?_)
      have hP : va_P D vwCl (mdW Y cI 0 m_status m_isThere m_kinds m_newKinds m_print m_low m_high m_lot m_taped m_latest m_length m_cursor m_token m_from m_till m_fault m_faultAt 0 r_lane r_many r_item r_market r_of r_newMarket r_newStart r_newOf r_newCoin r_state r_kept r_tape r_brings r_seen r_seenOut r_trace ++ R) H := hP
      have hD : va_D A (mdW Y cI 0 m_status m_isThere m_kinds m_newKinds m_print m_low m_high m_lot m_taped m_latest m_length m_cursor m_token m_from m_till m_fault m_faultAt 0 r_lane r_many r_item r_market r_of r_newMarket r_newStart r_newOf r_newCoin r_state r_kept r_tape r_brings r_seen r_seenOut r_trace ++ R) := hD
      have hb_0 : tr_ok 0 := ⟨by decide, by decide⟩
      refine lv_iload_n hx hb dX11_ask_31 rfl (lv_at hl 2 rfl) ?_
      refine lv_if_ne (tgt := 49) hx hb dX11_ask_32 (by decide) (fun c_5 => ?_) (fun c_5 => ?_)
      · have d_5 := i_eqn rfl (show (0 : Int32).toInt = 0 from by decide) c_5
        refine lv_aload_n hx hb dX11_ask_49 rfl (lv_at hl 0 rfl) ?_
        refine lv_iload_n hx hb dX11_ask_50 rfl (lv_at hl 1 rfl) ?_
        refine lv_aload_n hx hb dX11_ask_51 rfl (lv_at hl 0 rfl) ?_
        refine lv_iload_n hx hb dX11_ask_52 rfl (lv_at hl 1 rfl) ?_
        refine lv_iconst (v := 0) hx hb dX11_ask_53 (by decide) ?_
        refine mx_callV (As := [.int k, .int 0]) (rest := [.int k, .ref (Y 0)]) ⟨hx, hb, hml, hown, hts⟩ (mtX11_told l D cI cB cK cS Y R 0 m_status m_isThere m_kinds m_newKinds m_print m_low m_high m_lot m_taped m_latest m_length m_cursor m_token m_from m_till m_fault m_faultAt 0 r_lane r_many r_item r_market r_of r_newMarket r_newStart r_newOf r_newCoin r_state r_kept r_tape r_brings r_seen r_seenOut r_trace k 0 (vp_in_iff.mpr (by rw [show (6 * k + 0).toInt = ((6 * k.toInt) + 0) from (i_addv (i_mulv (show (6 : Int32).toInt = 6 from by decide) rfl (by omega) (by omega)) (show (0 : Int32).toInt = 0 from by decide) (by omega) (by omega))]; constructor <;> omega))) (cwV 2 hts gX11_ask_X11_told rfl rfl rfl (by decide +kernel) ⟨Nat.le_of_ble_eq_true rfl, Nat.le_of_ble_eq_true rfl⟩) pF0_ok trivial hK hP hD hS hA 0 rfl rfl rfl rfl hl.1 rfl (Nat.le_of_ble_eq_true rfl) dX11_ask_54 ⟨Nat.le_refl _, Nat.le_refl _⟩ (fun u_6 H locs eu_6 hP hD hS => ?_)
        refine W.eq (g2 := F0 m 57 ls [.int u_6, .int k, .ref (Y 0)]) rfl ?_
        have hP : va_P D vwCl (mdW Y cI 0 m_status m_isThere m_kinds m_newKinds m_print m_low m_high m_lot m_taped m_latest m_length m_cursor m_token m_from m_till m_fault m_faultAt 0 r_lane r_many r_item r_market r_of r_newMarket r_newStart r_newOf r_newCoin r_state r_kept r_tape r_brings r_seen r_seenOut r_trace ++ R) H := hP
        have hD : va_D A (mdW Y cI 0 m_status m_isThere m_kinds m_newKinds m_print m_low m_high m_lot m_taped m_latest m_length m_cursor m_token m_from m_till m_fault m_faultAt 0 r_lane r_many r_item r_market r_of r_newMarket r_newStart r_newOf r_newCoin r_state r_kept r_tape r_brings r_seen r_seenOut r_trace ++ R) := hD
        refine mx_callV (As := [.int k, .int u_6]) (rest := []) ⟨hx, hb, hml, hown, hts⟩ (mtX11_markOf l D cI cB cK cS Y R 0 m_status m_isThere m_kinds m_newKinds m_print m_low m_high m_lot m_taped m_latest m_length m_cursor m_token m_from m_till m_fault m_faultAt 0 r_lane r_many r_item r_market r_of r_newMarket r_newStart r_newOf r_newCoin r_state r_kept r_tape r_brings r_seen r_seenOut r_trace k u_6 (by first | assumption | omega) (by first | assumption | omega) (by first | assumption | omega)) (cwV 2 hts gX11_ask_X11_markOf rfl rfl rfl (by decide +kernel) ⟨Nat.le_of_ble_eq_true rfl, Nat.le_of_ble_eq_true rfl⟩) pF0_ok trivial hK hP hD hS hA 0 rfl rfl rfl rfl hl.1 rfl (Nat.le_of_ble_eq_true rfl) dX11_ask_57 ⟨Nat.le_refl _, Nat.le_refl _⟩ (fun u_7 H locs eu_7 hP hD hS => ?_)
        refine W.eq (g2 := F0 m 60 ls [.int u_7.1]) rfl ?_
        have hP : va_P D vwCl (mdW Y cI 0 m_status m_isThere m_kinds m_newKinds m_print m_low m_high m_lot m_taped m_latest m_length m_cursor m_token m_from m_till m_fault m_faultAt u_7.2.1 r_lane r_many r_item r_market r_of r_newMarket r_newStart r_newOf r_newCoin r_state r_kept r_tape r_brings r_seen r_seenOut u_7.2.2 ++ R) H := hP
        have hD : va_D A (mdW Y cI 0 m_status m_isThere m_kinds m_newKinds m_print m_low m_high m_lot m_taped m_latest m_length m_cursor m_token m_from m_till m_fault m_faultAt u_7.2.1 r_lane r_many r_item r_market r_of r_newMarket r_newStart r_newOf r_newCoin r_state r_kept r_tape r_brings r_seen r_seenOut u_7.2.2 ++ R) := hD
        have hb_u_7 := sX11_markOf_ok (by assumption) eu_7
        rw [hQm]
        exact mx_iret (u0 := sX11_ask k a m_kinds m_print m_traced r_of r_trace) (rv := (fun u => some (.int u.1))) (w1 := (fun u => mdW Y cI u.2.1 m_status m_isThere m_kinds m_newKinds m_print m_low m_high m_lot m_taped m_latest m_length m_cursor m_token m_from m_till m_fault m_faultAt u.2.2.1 r_lane r_many r_item r_market r_of r_newMarket r_newStart r_newOf r_newCoin r_state r_kept r_tape r_brings r_seen r_seenOut u.2.2.2 ++ R)) (u := (u_7.1, 0, u_7.2.1, u_7.2.2)) hx hb hr hlocks hK hS (lt_eq eu_1 ((if_neg c_2).trans (lt_eq eu_3 ((if_neg c_4).trans ((if_neg c_5).trans (lt_eq eu_6 (lt_eq eu_7 rfl))))))) hP hD rfl dX11_ask_60
      · have d_5 := i_eq rfl (show (0 : Int32).toInt = 0 from by decide) c_5
        refine lv_aload_n hx hb dX11_ask_35 rfl (lv_at hl 0 rfl) ?_
        refine lv_iload_n hx hb dX11_ask_36 rfl (lv_at hl 1 rfl) ?_
        refine lv_aload_n hx hb dX11_ask_37 rfl (lv_at hl 0 rfl) ?_
        refine lv_iload_n hx hb dX11_ask_38 rfl (lv_at hl 1 rfl) ?_
        refine lv_iconst (v := 0) hx hb dX11_ask_39 (by decide) ?_
        refine mx_callV (As := [.int k, .int 0]) (rest := [.int k, .ref (Y 0)]) ⟨hx, hb, hml, hown, hts⟩ (mtX11_told l D cI cB cK cS Y R 0 m_status m_isThere m_kinds m_newKinds m_print m_low m_high m_lot m_taped m_latest m_length m_cursor m_token m_from m_till m_fault m_faultAt 0 r_lane r_many r_item r_market r_of r_newMarket r_newStart r_newOf r_newCoin r_state r_kept r_tape r_brings r_seen r_seenOut r_trace k 0 (vp_in_iff.mpr (by rw [show (6 * k + 0).toInt = ((6 * k.toInt) + 0) from (i_addv (i_mulv (show (6 : Int32).toInt = 6 from by decide) rfl (by omega) (by omega)) (show (0 : Int32).toInt = 0 from by decide) (by omega) (by omega))]; constructor <;> omega))) (cwV 2 hts gX11_ask_X11_told rfl rfl rfl (by decide +kernel) ⟨Nat.le_of_ble_eq_true rfl, Nat.le_of_ble_eq_true rfl⟩) pF0_ok trivial hK hP hD hS hA 0 rfl rfl rfl rfl hl.1 rfl (Nat.le_of_ble_eq_true rfl) dX11_ask_40 ⟨Nat.le_refl _, Nat.le_refl _⟩ (fun u_8 H locs eu_8 hP hD hS => ?_)
        refine W.eq (g2 := F0 m 43 ls [.int u_8, .int k, .ref (Y 0)]) rfl ?_
        have hP : va_P D vwCl (mdW Y cI 0 m_status m_isThere m_kinds m_newKinds m_print m_low m_high m_lot m_taped m_latest m_length m_cursor m_token m_from m_till m_fault m_faultAt 0 r_lane r_many r_item r_market r_of r_newMarket r_newStart r_newOf r_newCoin r_state r_kept r_tape r_brings r_seen r_seenOut r_trace ++ R) H := hP
        have hD : va_D A (mdW Y cI 0 m_status m_isThere m_kinds m_newKinds m_print m_low m_high m_lot m_taped m_latest m_length m_cursor m_token m_from m_till m_fault m_faultAt 0 r_lane r_many r_item r_market r_of r_newMarket r_newStart r_newOf r_newCoin r_state r_kept r_tape r_brings r_seen r_seenOut r_trace ++ R) := hD
        refine mx_callV (As := [.int k, .int u_8]) (rest := []) ⟨hx, hb, hml, hown, hts⟩ (mtX11_sizeOf l D cI cB cK cS Y R 0 m_status m_isThere m_kinds m_newKinds m_print m_low m_high m_lot m_taped m_latest m_length m_cursor m_token m_from m_till m_fault m_faultAt 0 r_lane r_many r_item r_market r_of r_newMarket r_newStart r_newOf r_newCoin r_state r_kept r_tape r_brings r_seen r_seenOut r_trace k u_8 (by first | assumption | omega) (by first | assumption | omega) (by first | assumption | omega)) (cwV 2 hts gX11_ask_X11_sizeOf rfl rfl rfl (by decide +kernel) ⟨Nat.le_of_ble_eq_true rfl, Nat.le_of_ble_eq_true rfl⟩) pF0_ok trivial hK hP hD hS hA 0 rfl rfl rfl rfl hl.1 rfl (Nat.le_of_ble_eq_true rfl) dX11_ask_43 ⟨Nat.le_refl _, Nat.le_refl _⟩ (fun u_9 H locs eu_9 hP hD hS => ?_)
        refine W.eq (g2 := F0 m 46 ls [.int u_9.1]) rfl ?_
        have hP : va_P D vwCl (mdW Y cI 0 m_status m_isThere m_kinds m_newKinds m_print m_low m_high m_lot m_taped m_latest m_length m_cursor m_token m_from m_till m_fault m_faultAt u_9.2.1 r_lane r_many r_item r_market r_of r_newMarket r_newStart r_newOf r_newCoin r_state r_kept r_tape r_brings r_seen r_seenOut u_9.2.2 ++ R) H := hP
        have hD : va_D A (mdW Y cI 0 m_status m_isThere m_kinds m_newKinds m_print m_low m_high m_lot m_taped m_latest m_length m_cursor m_token m_from m_till m_fault m_faultAt u_9.2.1 r_lane r_many r_item r_market r_of r_newMarket r_newStart r_newOf r_newCoin r_state r_kept r_tape r_brings r_seen r_seenOut u_9.2.2 ++ R) := hD
        refine lv_goto (tgt := 60) hx hb dX11_ask_46 (by decide) ?_
        rw [hQm]
        exact mx_iret (u0 := sX11_ask k a m_kinds m_print m_traced r_of r_trace) (rv := (fun u => some (.int u.1))) (w1 := (fun u => mdW Y cI u.2.1 m_status m_isThere m_kinds m_newKinds m_print m_low m_high m_lot m_taped m_latest m_length m_cursor m_token m_from m_till m_fault m_faultAt u.2.2.1 r_lane r_many r_item r_market r_of r_newMarket r_newStart r_newOf r_newCoin r_state r_kept r_tape r_brings r_seen r_seenOut u.2.2.2 ++ R)) (u := (u_9.1, 0, u_9.2.1, u_9.2.2)) hx hb hr hlocks hK hS (lt_eq eu_1 ((if_neg c_2).trans (lt_eq eu_3 ((if_neg c_4).trans ((if_pos c_5).trans (lt_eq eu_8 (lt_eq eu_9 rfl))))))) hP hD rfl dX11_ask_60
    · have d_4 := i_eq rfl (show (0 : Int32).toInt = 0 from by decide) c_4
      refine lv_ldc (v := (-1000001)) hx hb hown k78 dX11_ask_23 ?_
      rw [hQm]
      exact mx_iret (u0 := sX11_ask k a m_kinds m_print m_traced r_of r_trace) (rv := (fun u => some (.int u.1))) (w1 := (fun u => mdW Y cI u.2.1 m_status m_isThere m_kinds m_newKinds m_print m_low m_high m_lot m_taped m_latest m_length m_cursor m_token m_from m_till m_fault m_faultAt u.2.2.1 r_lane r_many r_item r_market r_of r_newMarket r_newStart r_newOf r_newCoin r_state r_kept r_tape r_brings r_seen r_seenOut u.2.2.2 ++ R)) (u := ((-1000001), 0, m_traced, r_trace)) hx hb hr hlocks hK hS (lt_eq eu_1 ((if_neg c_2).trans (lt_eq eu_3 ((if_pos c_4).trans rfl)))) hP hD rfl dX11_ask_25

def sX11_trace (k : Int32) (m_traced : Int32) (r_trace : Nat → Int32) : Int32 × (Int32) := lt (sX11_in k.toInt64 0 ((m_traced - 1).toInt64)) (fun u_1 : Int32 => if u_1 = 0 then (((-1000000), 0)) else (((r_trace k.toNatClampNeg), 0)))
set_option maxHeartbeats 4000000 in
set_option maxRecDepth 100000 in
theorem mtX11_trace (l : Launch) (D : va_G) (cI cB cK cS : ClassId) (Y : Nat → Nat) (R : va_W) (m_thrown : Int32) (m_status : Int32) (m_isThere : Int32) (m_kinds : Int32) (m_newKinds : Int32) (m_print : Int32) (m_low : Int32) (m_high : Int32) (m_lot : Int32) (m_taped : Int32) (m_latest : Int32) (m_length : Int32) (m_cursor : Int32) (m_token : Int32) (m_from : Int32) (m_till : Int32) (m_fault : Int32) (m_faultAt : Int32) (m_traced : Int32) (r_lane : Nat → Int32) (r_many : Nat → Int32) (r_item : Nat → Int32) (r_market : Nat → Int32) (r_of : Nat → Int32) (r_newMarket : Nat → Int32) (r_newStart : Nat → Int32) (r_newOf : Nat → Int32) (r_newCoin : Nat → Int32) (r_state : Nat → Int32) (r_kept : Nat → Int32) (r_tape : Nat → Int32) (r_brings : Nat → Int32) (r_seen : Nat → Int32) (r_seenOut : Nat → Int32) (r_trace : Nat → Int32) (k : Int32) (htr : tr_ok m_traced) : MX l yX11_trace wsX11_trace (rmX 2) D (tyX cI cB cK cS) pF0 (mdW Y cI m_thrown m_status m_isThere m_kinds m_newKinds m_print m_low m_high m_lot m_taped m_latest m_length m_cursor m_token m_from m_till m_fault m_faultAt m_traced r_lane r_many r_item r_market r_of r_newMarket r_newStart r_newOf r_newCoin r_state r_kept r_tape r_brings r_seen r_seenOut r_trace ++ R) [.ref (Y 0), .int k] (sX11_trace k m_traced r_trace) (fun u => some (.int u.1)) (fun u => mdW Y cI u.2 m_status m_isThere m_kinds m_newKinds m_print m_low m_high m_lot m_taped m_latest m_length m_cursor m_token m_from m_till m_fault m_faultAt m_traced r_lane r_many r_item r_market r_of r_newMarket r_newStart r_newOf r_newCoin r_state r_kept r_tape r_brings r_seen r_seenOut r_trace ++ R) := by
  refine mx_intro (cc := cX11_trace) (maxL := 2) (ret := (some .int)) (by decide) rfl (Nat.le_of_ble_eq_true rfl) ?_
  intro p e s m below meth c A ls H locs Qm hQm hx hb hr hml hts hown hlocks hA hS hP hK hD hF hl
  have hown : s.vm.findClass RX11 = some m.cls := hown
  have hl : lv_has ls 2 [(0, .ref (Y 0)), (1, .int k)] := hl
  have k58 := hts (.fieldLink RX11 58 "PigRoundsModel" "thrown" "I") (by decide +kernel)
  have k277 := hts (.fieldLink RX11 277 "PigRoundsModel" "traced" "I") (by decide +kernel)
  have k94 := hts (.constant RX11 94 (-1000000)) (by decide +kernel)
  have k55 := hts (.fieldLink RX11 55 "PigRoundsModel" "trace" "[I") (by decide +kernel)
  have iX11 : ∀ w ∈ u_ws RX11 TX11 35, w ∈ wsX11_trace := by decide +kernel
  obtain ⟨htr0, htr1⟩ := id htr
  refine lv_aload_n hx hb dX11_trace_0 rfl (lv_at hl 0 rfl) ?_
  refine lv_iconst (v := 0) hx hb dX11_trace_1 (by decide) ?_
  refine va_put (D := D) (ci := 9) (v := .int 0) (ty := .int) (C := RX11) (T := TX11) (N := 35) hx hb hts iX11 tyX11 tyX11_ok nmX11 hown hK hP hD hS 0 rfl rfl 0 (by decide) k58 (fun _ h9 => h9) rfl (by decide +kernel) rfl rfl (Nat.le_of_ble_eq_true rfl) dX11_trace_2 (fun H locs hP hD hS => ?_)
  have hP : va_P D vwCl (mdW Y cI 0 m_status m_isThere m_kinds m_newKinds m_print m_low m_high m_lot m_taped m_latest m_length m_cursor m_token m_from m_till m_fault m_faultAt m_traced r_lane r_many r_item r_market r_of r_newMarket r_newStart r_newOf r_newCoin r_state r_kept r_tape r_brings r_seen r_seenOut r_trace ++ R) H := hP
  have hD : va_D A (mdW Y cI 0 m_status m_isThere m_kinds m_newKinds m_print m_low m_high m_lot m_taped m_latest m_length m_cursor m_token m_from m_till m_fault m_faultAt m_traced r_lane r_many r_item r_market r_of r_newMarket r_newStart r_newOf r_newCoin r_state r_kept r_tape r_brings r_seen r_seenOut r_trace ++ R) := hD
  refine lv_iload_n hx hb dX11_trace_5 rfl (lv_at hl 1 rfl) ?_
  refine lv_i2l (v := k.toInt64) hx hb dX11_trace_6 rfl ?_
  refine lv_lconst (v := 0) hx hb dX11_trace_7 (by decide) ?_
  refine lv_aload_n hx hb dX11_trace_8 rfl (lv_at hl 0 rfl) ?_
  refine va_get (D := D) (ci := 9) (v := .int m_traced) (C := RX11) (T := TX11) (N := 35) hx hb hts iX11 hown hK hP 0 rfl rfl 34 (by decide) k277 (fun _ h9 => h9) rfl dX11_trace_9 ?_
  refine lv_iconst (v := 1) hx hb dX11_trace_12 (by decide) ?_
  refine lv_isub hx hb dX11_trace_13 ?_
  refine lv_i2l (v := (m_traced - 1).toInt64) hx hb dX11_trace_14 rfl ?_
  refine mx_callS (As := [.long k.toInt64, .long 0, .long ((m_traced - 1).toInt64)]) (rest := []) ⟨hx, hb, hml, hown, hts⟩ (mtX11_in l D cI cB cK cS (mdW Y cI 0 m_status m_isThere m_kinds m_newKinds m_print m_low m_high m_lot m_taped m_latest m_length m_cursor m_token m_from m_till m_fault m_faultAt m_traced r_lane r_many r_item r_market r_of r_newMarket r_newStart r_newOf r_newCoin r_state r_kept r_tape r_brings r_seen r_seenOut r_trace ++ R) k.toInt64 0 ((m_traced - 1).toInt64)) (va_cwS 3 hts gX11_trace_X11_in rfl rfl rfl (by decide +kernel) ⟨Nat.le_of_ble_eq_true rfl, Nat.le_of_ble_eq_true rfl⟩) pF0_ok trivial hK hP hD hS hA rfl hl.1 rfl (Nat.le_of_ble_eq_true rfl) dX11_trace_15 ⟨Nat.le_refl _, Nat.le_refl _⟩ (fun u_1 H locs eu_1 hP hD hS => ?_)
  refine W.eq (g2 := F0 m 18 ls [.int u_1]) rfl ?_
  have hP : va_P D vwCl (mdW Y cI 0 m_status m_isThere m_kinds m_newKinds m_print m_low m_high m_lot m_taped m_latest m_length m_cursor m_token m_from m_till m_fault m_faultAt m_traced r_lane r_many r_item r_market r_of r_newMarket r_newStart r_newOf r_newCoin r_state r_kept r_tape r_brings r_seen r_seenOut r_trace ++ R) H := hP
  have hD : va_D A (mdW Y cI 0 m_status m_isThere m_kinds m_newKinds m_print m_low m_high m_lot m_taped m_latest m_length m_cursor m_token m_from m_till m_fault m_faultAt m_traced r_lane r_many r_item r_market r_of r_newMarket r_newStart r_newOf r_newCoin r_state r_kept r_tape r_brings r_seen r_seenOut r_trace ++ R) := hD
  refine lv_if_eq (tgt := 30) hx hb dX11_trace_18 (by decide) (fun c_2 => ?_) (fun c_2 => ?_)
  · have d_2 := i_eq rfl (show (0 : Int32).toInt = 0 from by decide) c_2
    refine lv_ldc (v := (-1000000)) hx hb hown k94 dX11_trace_30 ?_
    rw [hQm]
    exact mx_iret (u0 := sX11_trace k m_traced r_trace) (rv := (fun u => some (.int u.1))) (w1 := (fun u => mdW Y cI u.2 m_status m_isThere m_kinds m_newKinds m_print m_low m_high m_lot m_taped m_latest m_length m_cursor m_token m_from m_till m_fault m_faultAt m_traced r_lane r_many r_item r_market r_of r_newMarket r_newStart r_newOf r_newCoin r_state r_kept r_tape r_brings r_seen r_seenOut r_trace ++ R)) (u := ((-1000000), 0)) hx hb hr hlocks hK hS (lt_eq eu_1 ((if_pos c_2).trans rfl)) hP hD rfl dX11_trace_32
  · have d_2 := i_eqn rfl (show (0 : Int32).toInt = 0 from by decide) c_2
    have dt_2 := sX11_in_t ((Int32.toInt_toInt64 _).trans rfl) (show (0 : Int64).toInt = 0 from by decide) ((Int32.toInt_toInt64 _).trans (i_subv rfl (show (1 : Int32).toInt = 1 from by decide) (by omega) (by omega))) eu_1 c_2
    refine lv_aload_n hx hb dX11_trace_21 rfl (lv_at hl 0 rfl) ?_
    refine va_get (D := D) (ci := 9) (v := .ref (Y 33)) (C := RX11) (T := TX11) (N := 35) hx hb hts iX11 hown hK hP 0 rfl rfl 33 (by decide) k55 (fun _ h9 => h9) rfl dX11_trace_22 ?_
    refine lv_iload_n hx hb dX11_trace_25 rfl (lv_at hl 1 rfl) ?_
    have q_3 : vp_in k 16 := vp_in_iff.mpr ⟨by omega, by omega⟩
    refine va_iald hx hb hK hP 16 0 rfl rfl q_3 dX11_trace_26 ?_
    refine lv_goto (tgt := 32) hx hb dX11_trace_27 (by decide) ?_
    rw [hQm]
    exact mx_iret (u0 := sX11_trace k m_traced r_trace) (rv := (fun u => some (.int u.1))) (w1 := (fun u => mdW Y cI u.2 m_status m_isThere m_kinds m_newKinds m_print m_low m_high m_lot m_taped m_latest m_length m_cursor m_token m_from m_till m_fault m_faultAt m_traced r_lane r_many r_item r_market r_of r_newMarket r_newStart r_newOf r_newCoin r_state r_kept r_tape r_brings r_seen r_seenOut r_trace ++ R)) (u := ((r_trace k.toNatClampNeg), 0)) hx hb hr hlocks hK hS (lt_eq eu_1 ((if_neg c_2).trans rfl)) hP hD rfl dX11_trace_32

def lX11_count_46 (r_lane : Nat → Int32) : Nat → Int32 → Int32 → Int32 × Int32
  | 0, x3_46, x2_46 => (x3_46, x2_46)
  | n + 1, x3_46, x2_46 => if 8 ≤ x3_46 then ((x3_46, x2_46)) else (lt (if (r_lane x3_46.toNatClampNeg) < 0 then (0) else (1)) (fun y_4 : Int32 => lt (x2_46 + y_4) (fun x_6 : Int32 => lt (x3_46 + 1) (fun x_7 : Int32 => lX11_count_46 r_lane n x_7 x_6))))

def lX11_count_84 (w : Int32) (m_kinds : Int32) (r_of : Nat → Int32) (r_state : Nat → Int32) : Nat → Int32 → Int32 → Int32 × Int32
  | 0, x3_84, x2_84 => (x3_84, x2_84)
  | n + 1, x3_84, x2_84 => if m_kinds ≤ x3_84 then ((x3_84, x2_84)) else (lt (if w = 2 then (lt (sX11_told x3_84 2 r_of) (fun u_16 : Int32 => u_16)) else ((r_state (12 + x3_84).toNatClampNeg))) (fun y_13 : Int32 => lt (x2_84 + y_13) (fun x_17 : Int32 => lt (x3_84 + 1) (fun x_18 : Int32 => lX11_count_84 w m_kinds r_of r_state n x_18 x_17))))

def lX11_count_84b (w : Int32) (m_kinds : Int32) (r_of : Nat → Int32) (r_state : Nat → Int32) : Nat → Int32 → Int32 → Int32 × Int32
  | 0, x3_84, x2_84 => (x3_84, x2_84)
  | n + 1, x3_84, x2_84 => if m_kinds ≤ x3_84 then ((x3_84, x2_84)) else (lt (if w = 2 then (lt (sX11_told x3_84 2 r_of) (fun u_26 : Int32 => u_26)) else ((r_state (12 + x3_84).toNatClampNeg))) (fun y_23 : Int32 => lt (x2_84 + y_23) (fun x_27 : Int32 => lt (x3_84 + 1) (fun x_28 : Int32 => lX11_count_84b w m_kinds r_of r_state n x_28 x_27))))

def sX11_count (w : Int32) (m_kinds : Int32) (m_taped : Int32) (r_lane : Nat → Int32) (r_of : Nat → Int32) (r_state : Nat → Int32) : Int32 × (Int32) := if w = 0 then (lt (lX11_count_46 r_lane 9 0 0) (fun u_8 : Int32 × Int32 => (u_8.2, 0))) else (if w = 1 then ((m_kinds, 0)) else (if w = 2 then (lt (lX11_count_84 w m_kinds r_of r_state 6 0 0) (fun u_19 : Int32 × Int32 => (u_19.2, 0))) else (if w = 3 then (lt (lX11_count_84b w m_kinds r_of r_state 6 0 0) (fun u_29 : Int32 × Int32 => (u_29.2, 0))) else (if w = 4 then ((m_taped, 0)) else (((-1000001), 0))))))
set_option maxHeartbeats 4000000 in
set_option maxRecDepth 100000 in
theorem mtX11_count (l : Launch) (D : va_G) (cI cB cK cS : ClassId) (Y : Nat → Nat) (R : va_W) (m_thrown : Int32) (m_status : Int32) (m_isThere : Int32) (m_kinds : Int32) (m_newKinds : Int32) (m_print : Int32) (m_low : Int32) (m_high : Int32) (m_lot : Int32) (m_taped : Int32) (m_latest : Int32) (m_length : Int32) (m_cursor : Int32) (m_token : Int32) (m_from : Int32) (m_till : Int32) (m_fault : Int32) (m_faultAt : Int32) (m_traced : Int32) (r_lane : Nat → Int32) (r_many : Nat → Int32) (r_item : Nat → Int32) (r_market : Nat → Int32) (r_of : Nat → Int32) (r_newMarket : Nat → Int32) (r_newStart : Nat → Int32) (r_newOf : Nat → Int32) (r_newCoin : Nat → Int32) (r_state : Nat → Int32) (r_kept : Nat → Int32) (r_tape : Nat → Int32) (r_brings : Nat → Int32) (r_seen : Nat → Int32) (r_seenOut : Nat → Int32) (r_trace : Nat → Int32) (w : Int32) (hkd : m_kinds.toInt ≤ 5) : MX l yX11_count wsX11_count (rmX 2) D (tyX cI cB cK cS) pF0 (mdW Y cI m_thrown m_status m_isThere m_kinds m_newKinds m_print m_low m_high m_lot m_taped m_latest m_length m_cursor m_token m_from m_till m_fault m_faultAt m_traced r_lane r_many r_item r_market r_of r_newMarket r_newStart r_newOf r_newCoin r_state r_kept r_tape r_brings r_seen r_seenOut r_trace ++ R) [.ref (Y 0), .int w] (sX11_count w m_kinds m_taped r_lane r_of r_state) (fun u => some (.int u.1)) (fun u => mdW Y cI u.2 m_status m_isThere m_kinds m_newKinds m_print m_low m_high m_lot m_taped m_latest m_length m_cursor m_token m_from m_till m_fault m_faultAt m_traced r_lane r_many r_item r_market r_of r_newMarket r_newStart r_newOf r_newCoin r_state r_kept r_tape r_brings r_seen r_seenOut r_trace ++ R) := by
  refine mx_intro (cc := cX11_count) (maxL := 4) (ret := (some .int)) (by decide) rfl (Nat.le_of_ble_eq_true rfl) ?_
  intro p e s m below meth c A ls H locs Qm hQm hx hb hr hml hts hown hlocks hA hS hP hK hD hF hl
  have hown : s.vm.findClass RX11 = some m.cls := hown
  have hl : lv_has ls 4 [(0, .ref (Y 0)), (1, .int w)] := hl
  have k58 := hts (.fieldLink RX11 58 "PigRoundsModel" "thrown" "I") (by decide +kernel)
  have k7 := hts (.fieldLink RX11 7 "PigRoundsModel" "lane" "[I") (by decide +kernel)
  have k180 := hts (.fieldLink RX11 180 "PigRoundsModel" "kinds" "I") (by decide +kernel)
  have k37 := hts (.fieldLink RX11 37 "PigRoundsModel" "state" "[I") (by decide +kernel)
  have k85 := hts (.fieldLink RX11 85 "PigRoundsModel" "taped" "I") (by decide +kernel)
  have k78 := hts (.constant RX11 78 (-1000001)) (by decide +kernel)
  have iX11 : ∀ w ∈ u_ws RX11 TX11 35, w ∈ wsX11_count := by decide +kernel
  refine lv_aload_n hx hb dX11_count_0 rfl (lv_at hl 0 rfl) ?_
  refine lv_iconst (v := 0) hx hb dX11_count_1 (by decide) ?_
  refine va_put (D := D) (ci := 9) (v := .int 0) (ty := .int) (C := RX11) (T := TX11) (N := 35) hx hb hts iX11 tyX11 tyX11_ok nmX11 hown hK hP hD hS 0 rfl rfl 0 (by decide) k58 (fun _ h9 => h9) rfl (by decide +kernel) rfl rfl (Nat.le_of_ble_eq_true rfl) dX11_count_2 (fun H locs hP hD hS => ?_)
  have hP : va_P D vwCl (mdW Y cI 0 m_status m_isThere m_kinds m_newKinds m_print m_low m_high m_lot m_taped m_latest m_length m_cursor m_token m_from m_till m_fault m_faultAt m_traced r_lane r_many r_item r_market r_of r_newMarket r_newStart r_newOf r_newCoin r_state r_kept r_tape r_brings r_seen r_seenOut r_trace ++ R) H := hP
  have hD : va_D A (mdW Y cI 0 m_status m_isThere m_kinds m_newKinds m_print m_low m_high m_lot m_taped m_latest m_length m_cursor m_token m_from m_till m_fault m_faultAt m_traced r_lane r_many r_item r_market r_of r_newMarket r_newStart r_newOf r_newCoin r_state r_kept r_tape r_brings r_seen r_seenOut r_trace ++ R) := hD
  refine lv_iconst (v := 0) hx hb dX11_count_5 (by decide) ?_
  refine lv_istore_n (lv' := [(2, .int 0), (0, .ref (Y 0)), (1, .int w)]) hx hb dX11_count_6 rfl hl (by decide) rfl (fun ls hl => ?_)
  refine lv_iload_n hx hb dX11_count_7 rfl (lv_at hl 2 rfl) ?_
  rcases Classical.em (w = 0) with c_1 | c_1
  · refine lv_tableIn (tgt := 44) hx hb dX11_count_8 (by rw [c_1]; decide) (by rw [c_1]; decide) (by rw [c_1]; rfl) (by decide) ?_
    have d_1 := i_eq rfl (show (0 : Int32).toInt = 0 from by decide) c_1
    refine lv_iconst (v := 0) hx hb dX11_count_44 (by decide) ?_
    refine lv_istore_n (lv' := [(3, .int 0), (2, .int 0), (0, .ref (Y 0)), (1, .int w)]) hx hb dX11_count_45 rfl hl (by decide) rfl (fun ls hl => ?_)
    have L_46 : ∀ (n : Nat) (x3_46 : Int32) (x2_46 : Int32) (H : Heap) (locs : List Loc) (ls : Array Slot), 0 ≤ x3_46.toInt → x3_46.toInt ≤ 8 → (8 : Int) < x3_46.toInt + ((n : Nat) : Int) → va_P D vwCl (mdW Y cI 0 m_status m_isThere m_kinds m_newKinds m_print m_low m_high m_lot m_taped m_latest m_length m_cursor m_token m_from m_till m_fault m_faultAt m_traced r_lane r_many r_item r_market r_of r_newMarket r_newStart r_newOf r_newCoin r_state r_kept r_tape r_brings r_seen r_seenOut r_trace ++ R) H → va_D A (mdW Y cI 0 m_status m_isThere m_kinds m_newKinds m_print m_low m_high m_lot m_taped m_latest m_length m_cursor m_token m_from m_till m_fault m_faultAt m_traced r_lane r_many r_item r_market r_of r_newMarket r_newStart r_newOf r_newCoin r_state r_kept r_tape r_brings r_seen r_seenOut r_trace ++ R) → va_S A s.heap H locs → lv_has ls 4 [(3, .int x3_46), (2, .int x2_46), (0, .ref (Y 0))] → (∀ (u : Int32 × Int32) (H : Heap) (locs : List Loc) (ls : Array Slot), u = lX11_count_46 r_lane n x3_46 x2_46 → va_P D vwCl (mdW Y cI 0 m_status m_isThere m_kinds m_newKinds m_print m_low m_high m_lot m_taped m_latest m_length m_cursor m_token m_from m_till m_fault m_faultAt m_traced r_lane r_many r_item r_market r_of r_newMarket r_newStart r_newOf r_newCoin r_state r_kept r_tape r_brings r_seen r_seenOut r_trace ++ R) H → va_D A (mdW Y cI 0 m_status m_isThere m_kinds m_newKinds m_print m_low m_high m_lot m_taped m_latest m_length m_cursor m_token m_from m_till m_fault m_faultAt m_traced r_lane r_many r_item r_market r_of r_newMarket r_newStart r_newOf r_newCoin r_state r_kept r_tape r_brings r_seen r_seenOut r_trace ++ R) → va_S A s.heap H locs → lv_has ls 4 [(2, .int u.2)] → W p l e (rmX 2) s m ([.ref (Y 0), .int w] : List Value).toArray below meth c H locs 0 0 Qm (F0 m 75 ls [])) → W p l e (rmX 2) s m ([.ref (Y 0), .int w] : List Value).toArray below meth c H locs 0 0 Qm (F0 m 46 ls []) := by
      intro n
      induction n with
      | zero =>
        intro x3_46 x2_46 H locs ls iv_46_0 iv_46_1 iv_46_2 hP hD hS hl kont_46
        exfalso; omega
      | succ n ih_46 =>
        intro x3_46 x2_46 H locs ls iv_46_0 iv_46_1 iv_46_2 hP hD hS hl kont_46
        refine lv_iload_n hx hb dX11_count_46 rfl (lv_at hl 0 rfl) ?_
        refine lv_bipush (v := 8) hx hb dX11_count_47 (by decide) ?_
        refine lv_icmp_ge (tgt := 75) hx hb dX11_count_49 (by decide) (fun c_2 => ?_) (fun c_2 => ?_)
        · have d_2 := i_le (show (8 : Int32).toInt = 8 from by decide) rfl c_2
          exact kont_46 (x3_46, x2_46) H locs ls (show lX11_count_46 r_lane (n + 1) x3_46 x2_46 = (x3_46, x2_46) from ((if_pos c_2).trans rfl)).symm  hP hD hS (lv_sub hl [1] rfl)
        · have d_2 := i_len (show (8 : Int32).toInt = 8 from by decide) rfl c_2
          refine lv_iload_n hx hb dX11_count_52 rfl (lv_at hl 1 rfl) ?_
          refine lv_aload_n hx hb dX11_count_53 rfl (lv_at hl 2 rfl) ?_
          refine va_get (D := D) (ci := 9) (v := .ref (Y 2)) (C := RX11) (T := TX11) (N := 35) hx hb hts iX11 hown hK hP 0 rfl rfl 2 (by decide) k7 (fun _ h9 => h9) rfl dX11_count_54 ?_
          refine lv_iload_n hx hb dX11_count_57 rfl (lv_at hl 0 rfl) ?_
          have q_3 : vp_in x3_46 8 := vp_in_iff.mpr ⟨by omega, by omega⟩
          refine va_iald hx hb hK hP 1 0 rfl rfl q_3 dX11_count_58 ?_
          have J_4 : ∀ (y_4 : Int32) (H : Heap) (locs : List Loc) (ls : Array Slot), y_4 = (if (r_lane x3_46.toNatClampNeg) < 0 then (0) else (1)) → va_P D vwCl (mdW Y cI 0 m_status m_isThere m_kinds m_newKinds m_print m_low m_high m_lot m_taped m_latest m_length m_cursor m_token m_from m_till m_fault m_faultAt m_traced r_lane r_many r_item r_market r_of r_newMarket r_newStart r_newOf r_newCoin r_state r_kept r_tape r_brings r_seen r_seenOut r_trace ++ R) H → va_D A (mdW Y cI 0 m_status m_isThere m_kinds m_newKinds m_print m_low m_high m_lot m_taped m_latest m_length m_cursor m_token m_from m_till m_fault m_faultAt m_traced r_lane r_many r_item r_market r_of r_newMarket r_newStart r_newOf r_newCoin r_state r_kept r_tape r_brings r_seen r_seenOut r_trace ++ R) → va_S A s.heap H locs → lv_has ls 4 [(3, .int x3_46), (0, .ref (Y 0))] → W p l e (rmX 2) s m ([.ref (Y 0), .int w] : List Value).toArray below meth c H locs 0 0 Qm (F0 m 67 ls [.int y_4, .int x2_46]) := by
            intro y_4 H locs ls ey_4 hP hD hS hl
            refine lv_iadd hx hb dX11_count_67 ?_
            refine lv_topi (fun x_6 ex_6 => ?_)
            refine lv_istore_n (lv' := [(2, .int x_6), (3, .int x3_46), (0, .ref (Y 0))]) hx hb dX11_count_68 rfl hl (by decide) rfl (fun ls hl => ?_)
            obtain ⟨x_7, ex_7⟩ : ∃ z : Int32, z = x3_46 + 1 := ⟨_, rfl⟩
            refine lv_iinc (v := x_7) (lv' := [(3, .int x_7), (2, .int x_6), (0, .ref (Y 0))]) hx hb dX11_count_69 hl (k := 1) rfl (by rw [ex_7]; rfl) (by decide) rfl (fun ls hl => ?_)
            refine lv_goto (tgt := 46) hx hb dX11_count_72 (by decide) ?_
            have tx_7 : x_7.toInt = x3_46.toInt + 1 := i_inc ex_7 (by decide) (by omega) (by omega)
            refine ih_46 x_7 x_6 H locs ls (by omega) (by omega) (by omega) hP hD hS (lv_sub hl [0, 1, 2] rfl) (fun u H locs ls eu  hP hD hS hl => ?_)
            exact kont_46 u H locs ls (eu.trans (show lX11_count_46 r_lane (n + 1) x3_46 x2_46 = lX11_count_46 r_lane n x_7 x_6 from ((if_neg c_2).trans (lt_eq ey_4 (lt_eq ex_6 (lt_eq ex_7 rfl))))).symm)  hP hD hS hl
          refine lv_if_lt (tgt := 66) hx hb dX11_count_59 (by decide) (fun c_5 => ?_) (fun c_5 => ?_)
          · have d_5 := i_lt rfl (show (0 : Int32).toInt = 0 from by decide) c_5
            refine lv_iconst (v := 0) hx hb dX11_count_66 (by decide) ?_
            exact J_4 0 H locs ls (Eq.symm ((if_pos c_5).trans rfl)) hP hD hS (lv_sub hl [0, 2] rfl)
          · have d_5 := i_ltn rfl (show (0 : Int32).toInt = 0 from by decide) c_5
            refine lv_iconst (v := 1) hx hb dX11_count_62 (by decide) ?_
            refine lv_goto (tgt := 67) hx hb dX11_count_63 (by decide) ?_
            exact J_4 1 H locs ls (Eq.symm ((if_neg c_5).trans rfl)) hP hD hS (lv_sub hl [0, 2] rfl)
    refine L_46 9 0 0 H locs ls (by decide) (by decide) (by decide) hP hD hS (lv_sub hl [0, 1, 2] rfl) (fun u_8 H locs ls eu_8  hP hD hS hl => ?_)
    have hP : va_P D vwCl (mdW Y cI 0 m_status m_isThere m_kinds m_newKinds m_print m_low m_high m_lot m_taped m_latest m_length m_cursor m_token m_from m_till m_fault m_faultAt m_traced r_lane r_many r_item r_market r_of r_newMarket r_newStart r_newOf r_newCoin r_state r_kept r_tape r_brings r_seen r_seenOut r_trace ++ R) H := hP
    have hD : va_D A (mdW Y cI 0 m_status m_isThere m_kinds m_newKinds m_print m_low m_high m_lot m_taped m_latest m_length m_cursor m_token m_from m_till m_fault m_faultAt m_traced r_lane r_many r_item r_market r_of r_newMarket r_newStart r_newOf r_newCoin r_state r_kept r_tape r_brings r_seen r_seenOut r_trace ++ R) := hD
    refine lv_iload_n hx hb dX11_count_75 rfl (lv_at hl 0 rfl) ?_
    rw [hQm]
    exact mx_iret (u0 := sX11_count w m_kinds m_taped r_lane r_of r_state) (rv := (fun u => some (.int u.1))) (w1 := (fun u => mdW Y cI u.2 m_status m_isThere m_kinds m_newKinds m_print m_low m_high m_lot m_taped m_latest m_length m_cursor m_token m_from m_till m_fault m_faultAt m_traced r_lane r_many r_item r_market r_of r_newMarket r_newStart r_newOf r_newCoin r_state r_kept r_tape r_brings r_seen r_seenOut r_trace ++ R)) (u := (u_8.2, 0)) hx hb hr hlocks hK hS ((if_pos c_1).trans (lt_eq eu_8 rfl)) hP hD rfl dX11_count_76
  · rcases Classical.em (w = 1) with c_9 | c_9
    · refine lv_tableIn (tgt := 77) hx hb dX11_count_8 (by rw [c_9]; decide) (by rw [c_9]; decide) (by rw [c_9]; rfl) (by decide) ?_
      have d_9 := i_eq rfl (show (1 : Int32).toInt = 1 from by decide) c_9
      refine lv_aload_n hx hb dX11_count_77 rfl (lv_at hl 1 rfl) ?_
      refine va_get (D := D) (ci := 9) (v := .int m_kinds) (C := RX11) (T := TX11) (N := 35) hx hb hts iX11 hown hK hP 0 rfl rfl 6 (by decide) k180 (fun _ h9 => h9) rfl dX11_count_78 ?_
      rw [hQm]
      exact mx_iret (u0 := sX11_count w m_kinds m_taped r_lane r_of r_state) (rv := (fun u => some (.int u.1))) (w1 := (fun u => mdW Y cI u.2 m_status m_isThere m_kinds m_newKinds m_print m_low m_high m_lot m_taped m_latest m_length m_cursor m_token m_from m_till m_fault m_faultAt m_traced r_lane r_many r_item r_market r_of r_newMarket r_newStart r_newOf r_newCoin r_state r_kept r_tape r_brings r_seen r_seenOut r_trace ++ R)) (u := (m_kinds, 0)) hx hb hr hlocks hK hS ((if_neg c_1).trans ((if_pos c_9).trans rfl)) hP hD rfl dX11_count_81
    · rcases Classical.em (w = 2) with c_10 | c_10
      · refine lv_tableIn (tgt := 82) hx hb dX11_count_8 (by rw [c_10]; decide) (by rw [c_10]; decide) (by rw [c_10]; rfl) (by decide) ?_
        have d_10 := i_eq rfl (show (2 : Int32).toInt = 2 from by decide) c_10
        refine lv_iconst (v := 0) hx hb dX11_count_82 (by decide) ?_
        refine lv_istore_n (lv' := [(3, .int 0), (2, .int 0), (0, .ref (Y 0)), (1, .int w)]) hx hb dX11_count_83 rfl hl (by decide) rfl (fun ls hl => ?_)
        have L_84 : ∀ (n : Nat) (x3_84 : Int32) (x2_84 : Int32) (H : Heap) (locs : List Loc) (ls : Array Slot), 0 ≤ x3_84.toInt → x3_84.toInt ≤ 5 → (5 : Int) < x3_84.toInt + ((n : Nat) : Int) → va_P D vwCl (mdW Y cI 0 m_status m_isThere m_kinds m_newKinds m_print m_low m_high m_lot m_taped m_latest m_length m_cursor m_token m_from m_till m_fault m_faultAt m_traced r_lane r_many r_item r_market r_of r_newMarket r_newStart r_newOf r_newCoin r_state r_kept r_tape r_brings r_seen r_seenOut r_trace ++ R) H → va_D A (mdW Y cI 0 m_status m_isThere m_kinds m_newKinds m_print m_low m_high m_lot m_taped m_latest m_length m_cursor m_token m_from m_till m_fault m_faultAt m_traced r_lane r_many r_item r_market r_of r_newMarket r_newStart r_newOf r_newCoin r_state r_kept r_tape r_brings r_seen r_seenOut r_trace ++ R) → va_S A s.heap H locs → lv_has ls 4 [(3, .int x3_84), (2, .int x2_84), (0, .ref (Y 0)), (1, .int w)] → (∀ (u : Int32 × Int32) (H : Heap) (locs : List Loc) (ls : Array Slot), u = lX11_count_84 w m_kinds r_of r_state n x3_84 x2_84 → va_P D vwCl (mdW Y cI 0 m_status m_isThere m_kinds m_newKinds m_print m_low m_high m_lot m_taped m_latest m_length m_cursor m_token m_from m_till m_fault m_faultAt m_traced r_lane r_many r_item r_market r_of r_newMarket r_newStart r_newOf r_newCoin r_state r_kept r_tape r_brings r_seen r_seenOut r_trace ++ R) H → va_D A (mdW Y cI 0 m_status m_isThere m_kinds m_newKinds m_print m_low m_high m_lot m_taped m_latest m_length m_cursor m_token m_from m_till m_fault m_faultAt m_traced r_lane r_many r_item r_market r_of r_newMarket r_newStart r_newOf r_newCoin r_state r_kept r_tape r_brings r_seen r_seenOut r_trace ++ R) → va_S A s.heap H locs → lv_has ls 4 [(2, .int u.2)] → W p l e (rmX 2) s m ([.ref (Y 0), .int w] : List Value).toArray below meth c H locs 0 0 Qm (F0 m 124 ls [])) → W p l e (rmX 2) s m ([.ref (Y 0), .int w] : List Value).toArray below meth c H locs 0 0 Qm (F0 m 84 ls []) := by
          intro n
          induction n with
          | zero =>
            intro x3_84 x2_84 H locs ls iv_84_0 iv_84_1 iv_84_2 hP hD hS hl kont_84
            exfalso; omega
          | succ n ih_84 =>
            intro x3_84 x2_84 H locs ls iv_84_0 iv_84_1 iv_84_2 hP hD hS hl kont_84
            refine lv_iload_n hx hb dX11_count_84 rfl (lv_at hl 0 rfl) ?_
            refine lv_aload_n hx hb dX11_count_85 rfl (lv_at hl 2 rfl) ?_
            refine va_get (D := D) (ci := 9) (v := .int m_kinds) (C := RX11) (T := TX11) (N := 35) hx hb hts iX11 hown hK hP 0 rfl rfl 6 (by decide) k180 (fun _ h9 => h9) rfl dX11_count_86 ?_
            refine lv_icmp_ge (tgt := 124) hx hb dX11_count_89 (by decide) (fun c_11 => ?_) (fun c_11 => ?_)
            · have d_11 := i_le rfl rfl c_11
              exact kont_84 (x3_84, x2_84) H locs ls (show lX11_count_84 w m_kinds r_of r_state (n + 1) x3_84 x2_84 = (x3_84, x2_84) from ((if_pos c_11).trans rfl)).symm  hP hD hS (lv_sub hl [1] rfl)
            · have d_11 := i_len rfl rfl c_11
              refine lv_iload_n hx hb dX11_count_92 rfl (lv_at hl 1 rfl) ?_
              refine lv_iload_n hx hb dX11_count_93 rfl (lv_at hl 3 rfl) ?_
              refine lv_iconst (v := 2) hx hb dX11_count_94 (by decide) ?_
              have J_13 : ∀ (y_13 : Int32) (H : Heap) (locs : List Loc) (ls : Array Slot), y_13 = (if w = 2 then (lt (sX11_told x3_84 2 r_of) (fun u_16 : Int32 => u_16)) else ((r_state (12 + x3_84).toNatClampNeg))) → va_P D vwCl (mdW Y cI 0 m_status m_isThere m_kinds m_newKinds m_print m_low m_high m_lot m_taped m_latest m_length m_cursor m_token m_from m_till m_fault m_faultAt m_traced r_lane r_many r_item r_market r_of r_newMarket r_newStart r_newOf r_newCoin r_state r_kept r_tape r_brings r_seen r_seenOut r_trace ++ R) H → va_D A (mdW Y cI 0 m_status m_isThere m_kinds m_newKinds m_print m_low m_high m_lot m_taped m_latest m_length m_cursor m_token m_from m_till m_fault m_faultAt m_traced r_lane r_many r_item r_market r_of r_newMarket r_newStart r_newOf r_newCoin r_state r_kept r_tape r_brings r_seen r_seenOut r_trace ++ R) → va_S A s.heap H locs → lv_has ls 4 [(3, .int x3_84), (0, .ref (Y 0)), (1, .int w)] → W p l e (rmX 2) s m ([.ref (Y 0), .int w] : List Value).toArray below meth c H locs 0 0 Qm (F0 m 116 ls [.int y_13, .int x2_84]) := by
                intro y_13 H locs ls ey_13 hP hD hS hl
                refine lv_iadd hx hb dX11_count_116 ?_
                refine lv_topi (fun x_17 ex_17 => ?_)
                refine lv_istore_n (lv' := [(2, .int x_17), (3, .int x3_84), (0, .ref (Y 0)), (1, .int w)]) hx hb dX11_count_117 rfl hl (by decide) rfl (fun ls hl => ?_)
                obtain ⟨x_18, ex_18⟩ : ∃ z : Int32, z = x3_84 + 1 := ⟨_, rfl⟩
                refine lv_iinc (v := x_18) (lv' := [(3, .int x_18), (2, .int x_17), (0, .ref (Y 0)), (1, .int w)]) hx hb dX11_count_118 hl (k := 1) rfl (by rw [ex_18]; rfl) (by decide) rfl (fun ls hl => ?_)
                refine lv_goto (tgt := 84) hx hb dX11_count_121 (by decide) ?_
                have tx_18 : x_18.toInt = x3_84.toInt + 1 := i_inc ex_18 (by decide) (by omega) (by omega)
                refine ih_84 x_18 x_17 H locs ls (by omega) (by omega) (by omega) hP hD hS (lv_sub hl [0, 1, 2, 3] rfl) (fun u H locs ls eu  hP hD hS hl => ?_)
                exact kont_84 u H locs ls (eu.trans (show lX11_count_84 w m_kinds r_of r_state (n + 1) x3_84 x2_84 = lX11_count_84 w m_kinds r_of r_state n x_18 x_17 from ((if_neg c_11).trans (lt_eq ey_13 (lt_eq ex_17 (lt_eq ex_18 rfl))))).symm)  hP hD hS hl
              refine lv_icmp_ne (tgt := 107) hx hb dX11_count_95 (by decide) (fun c_14 => ?_) (fun c_14 => ?_)
              · have d_14 := i_eqn rfl (show (2 : Int32).toInt = 2 from by decide) c_14
                refine lv_aload_n hx hb dX11_count_107 rfl (lv_at hl 2 rfl) ?_
                refine va_get (D := D) (ci := 9) (v := .ref (Y 14)) (C := RX11) (T := TX11) (N := 35) hx hb hts iX11 hown hK hP 0 rfl rfl 14 (by decide) k37 (fun _ h9 => h9) rfl dX11_count_108 ?_
                refine lv_bipush (v := 12) hx hb dX11_count_111 (by decide) ?_
                refine lv_iload_n hx hb dX11_count_113 rfl (lv_at hl 0 rfl) ?_
                refine lv_iadd hx hb dX11_count_114 ?_
                have q_15 : vp_in (12 + x3_84) 17 := vp_in_iff.mpr (by rw [show (12 + x3_84).toInt = (12 + x3_84.toInt) from (i_addv (show (12 : Int32).toInt = 12 from by decide) rfl (by omega) (by omega))]; constructor <;> omega)
                refine va_iald hx hb hK hP 10 0 rfl rfl q_15 dX11_count_115 ?_
                exact J_13 (r_state (12 + x3_84).toNatClampNeg) H locs ls (Eq.symm ((if_neg c_14).trans rfl)) hP hD hS (lv_sub hl [0, 2, 3] rfl)
              · have d_14 := i_eq rfl (show (2 : Int32).toInt = 2 from by decide) c_14
                refine lv_aload_n hx hb dX11_count_98 rfl (lv_at hl 2 rfl) ?_
                refine lv_iload_n hx hb dX11_count_99 rfl (lv_at hl 0 rfl) ?_
                refine lv_iconst (v := 2) hx hb dX11_count_100 (by decide) ?_
                refine mx_callV (As := [.int x3_84, .int 2]) (rest := [.int x2_84]) ⟨hx, hb, hml, hown, hts⟩ (mtX11_told l D cI cB cK cS Y R 0 m_status m_isThere m_kinds m_newKinds m_print m_low m_high m_lot m_taped m_latest m_length m_cursor m_token m_from m_till m_fault m_faultAt m_traced r_lane r_many r_item r_market r_of r_newMarket r_newStart r_newOf r_newCoin r_state r_kept r_tape r_brings r_seen r_seenOut r_trace x3_84 2 (vp_in_iff.mpr (by rw [show (6 * x3_84 + 2).toInt = ((6 * x3_84.toInt) + 2) from (i_addv (i_mulv (show (6 : Int32).toInt = 6 from by decide) rfl (by omega) (by omega)) (show (2 : Int32).toInt = 2 from by decide) (by omega) (by omega))]; constructor <;> omega))) (cwV 2 hts gX11_count_X11_told rfl rfl rfl (by decide +kernel) ⟨Nat.le_of_ble_eq_true rfl, Nat.le_of_ble_eq_true rfl⟩) pF0_ok trivial hK hP hD hS hA 0 rfl rfl rfl rfl hl.1 rfl (Nat.le_of_ble_eq_true rfl) dX11_count_101 ⟨Nat.le_refl _, Nat.le_refl _⟩ (fun u_16 H locs eu_16 hP hD hS => ?_)
                refine W.eq (g2 := F0 m 104 ls [.int u_16, .int x2_84]) rfl ?_
                have hP : va_P D vwCl (mdW Y cI 0 m_status m_isThere m_kinds m_newKinds m_print m_low m_high m_lot m_taped m_latest m_length m_cursor m_token m_from m_till m_fault m_faultAt m_traced r_lane r_many r_item r_market r_of r_newMarket r_newStart r_newOf r_newCoin r_state r_kept r_tape r_brings r_seen r_seenOut r_trace ++ R) H := hP
                have hD : va_D A (mdW Y cI 0 m_status m_isThere m_kinds m_newKinds m_print m_low m_high m_lot m_taped m_latest m_length m_cursor m_token m_from m_till m_fault m_faultAt m_traced r_lane r_many r_item r_market r_of r_newMarket r_newStart r_newOf r_newCoin r_state r_kept r_tape r_brings r_seen r_seenOut r_trace ++ R) := hD
                refine lv_goto (tgt := 116) hx hb dX11_count_104 (by decide) ?_
                exact J_13 u_16 H locs ls (Eq.symm ((if_pos c_14).trans (lt_eq eu_16 rfl))) hP hD hS (lv_sub hl [0, 2, 3] rfl)
        refine L_84 6 0 0 H locs ls (by decide) (by decide) (by decide) hP hD hS (lv_sub hl [0, 1, 2, 3] rfl) (fun u_19 H locs ls eu_19  hP hD hS hl => ?_)
        have hP : va_P D vwCl (mdW Y cI 0 m_status m_isThere m_kinds m_newKinds m_print m_low m_high m_lot m_taped m_latest m_length m_cursor m_token m_from m_till m_fault m_faultAt m_traced r_lane r_many r_item r_market r_of r_newMarket r_newStart r_newOf r_newCoin r_state r_kept r_tape r_brings r_seen r_seenOut r_trace ++ R) H := hP
        have hD : va_D A (mdW Y cI 0 m_status m_isThere m_kinds m_newKinds m_print m_low m_high m_lot m_taped m_latest m_length m_cursor m_token m_from m_till m_fault m_faultAt m_traced r_lane r_many r_item r_market r_of r_newMarket r_newStart r_newOf r_newCoin r_state r_kept r_tape r_brings r_seen r_seenOut r_trace ++ R) := hD
        refine lv_iload_n hx hb dX11_count_124 rfl (lv_at hl 0 rfl) ?_
        rw [hQm]
        exact mx_iret (u0 := sX11_count w m_kinds m_taped r_lane r_of r_state) (rv := (fun u => some (.int u.1))) (w1 := (fun u => mdW Y cI u.2 m_status m_isThere m_kinds m_newKinds m_print m_low m_high m_lot m_taped m_latest m_length m_cursor m_token m_from m_till m_fault m_faultAt m_traced r_lane r_many r_item r_market r_of r_newMarket r_newStart r_newOf r_newCoin r_state r_kept r_tape r_brings r_seen r_seenOut r_trace ++ R)) (u := (u_19.2, 0)) hx hb hr hlocks hK hS ((if_neg c_1).trans ((if_neg c_9).trans ((if_pos c_10).trans (lt_eq eu_19 rfl)))) hP hD rfl dX11_count_125
      · rcases Classical.em (w = 3) with c_20 | c_20
        · refine lv_tableIn (tgt := 82) hx hb dX11_count_8 (by rw [c_20]; decide) (by rw [c_20]; decide) (by rw [c_20]; rfl) (by decide) ?_
          have d_20 := i_eq rfl (show (3 : Int32).toInt = 3 from by decide) c_20
          refine lv_iconst (v := 0) hx hb dX11_count_82 (by decide) ?_
          refine lv_istore_n (lv' := [(3, .int 0), (2, .int 0), (0, .ref (Y 0)), (1, .int w)]) hx hb dX11_count_83 rfl hl (by decide) rfl (fun ls hl => ?_)
          have L_84 : ∀ (n : Nat) (x3_84 : Int32) (x2_84 : Int32) (H : Heap) (locs : List Loc) (ls : Array Slot), 0 ≤ x3_84.toInt → x3_84.toInt ≤ 5 → (5 : Int) < x3_84.toInt + ((n : Nat) : Int) → va_P D vwCl (mdW Y cI 0 m_status m_isThere m_kinds m_newKinds m_print m_low m_high m_lot m_taped m_latest m_length m_cursor m_token m_from m_till m_fault m_faultAt m_traced r_lane r_many r_item r_market r_of r_newMarket r_newStart r_newOf r_newCoin r_state r_kept r_tape r_brings r_seen r_seenOut r_trace ++ R) H → va_D A (mdW Y cI 0 m_status m_isThere m_kinds m_newKinds m_print m_low m_high m_lot m_taped m_latest m_length m_cursor m_token m_from m_till m_fault m_faultAt m_traced r_lane r_many r_item r_market r_of r_newMarket r_newStart r_newOf r_newCoin r_state r_kept r_tape r_brings r_seen r_seenOut r_trace ++ R) → va_S A s.heap H locs → lv_has ls 4 [(3, .int x3_84), (2, .int x2_84), (0, .ref (Y 0)), (1, .int w)] → (∀ (u : Int32 × Int32) (H : Heap) (locs : List Loc) (ls : Array Slot), u = lX11_count_84b w m_kinds r_of r_state n x3_84 x2_84 → va_P D vwCl (mdW Y cI 0 m_status m_isThere m_kinds m_newKinds m_print m_low m_high m_lot m_taped m_latest m_length m_cursor m_token m_from m_till m_fault m_faultAt m_traced r_lane r_many r_item r_market r_of r_newMarket r_newStart r_newOf r_newCoin r_state r_kept r_tape r_brings r_seen r_seenOut r_trace ++ R) H → va_D A (mdW Y cI 0 m_status m_isThere m_kinds m_newKinds m_print m_low m_high m_lot m_taped m_latest m_length m_cursor m_token m_from m_till m_fault m_faultAt m_traced r_lane r_many r_item r_market r_of r_newMarket r_newStart r_newOf r_newCoin r_state r_kept r_tape r_brings r_seen r_seenOut r_trace ++ R) → va_S A s.heap H locs → lv_has ls 4 [(2, .int u.2)] → W p l e (rmX 2) s m ([.ref (Y 0), .int w] : List Value).toArray below meth c H locs 0 0 Qm (F0 m 124 ls [])) → W p l e (rmX 2) s m ([.ref (Y 0), .int w] : List Value).toArray below meth c H locs 0 0 Qm (F0 m 84 ls []) := by
            intro n
            induction n with
            | zero =>
              intro x3_84 x2_84 H locs ls iv_84_0 iv_84_1 iv_84_2 hP hD hS hl kont_84
              exfalso; omega
            | succ n ih_84 =>
              intro x3_84 x2_84 H locs ls iv_84_0 iv_84_1 iv_84_2 hP hD hS hl kont_84
              refine lv_iload_n hx hb dX11_count_84 rfl (lv_at hl 0 rfl) ?_
              refine lv_aload_n hx hb dX11_count_85 rfl (lv_at hl 2 rfl) ?_
              refine va_get (D := D) (ci := 9) (v := .int m_kinds) (C := RX11) (T := TX11) (N := 35) hx hb hts iX11 hown hK hP 0 rfl rfl 6 (by decide) k180 (fun _ h9 => h9) rfl dX11_count_86 ?_
              refine lv_icmp_ge (tgt := 124) hx hb dX11_count_89 (by decide) (fun c_21 => ?_) (fun c_21 => ?_)
              · have d_21 := i_le rfl rfl c_21
                exact kont_84 (x3_84, x2_84) H locs ls (show lX11_count_84b w m_kinds r_of r_state (n + 1) x3_84 x2_84 = (x3_84, x2_84) from ((if_pos c_21).trans rfl)).symm  hP hD hS (lv_sub hl [1] rfl)
              · have d_21 := i_len rfl rfl c_21
                refine lv_iload_n hx hb dX11_count_92 rfl (lv_at hl 1 rfl) ?_
                refine lv_iload_n hx hb dX11_count_93 rfl (lv_at hl 3 rfl) ?_
                refine lv_iconst (v := 2) hx hb dX11_count_94 (by decide) ?_
                have J_23 : ∀ (y_23 : Int32) (H : Heap) (locs : List Loc) (ls : Array Slot), y_23 = (if w = 2 then (lt (sX11_told x3_84 2 r_of) (fun u_26 : Int32 => u_26)) else ((r_state (12 + x3_84).toNatClampNeg))) → va_P D vwCl (mdW Y cI 0 m_status m_isThere m_kinds m_newKinds m_print m_low m_high m_lot m_taped m_latest m_length m_cursor m_token m_from m_till m_fault m_faultAt m_traced r_lane r_many r_item r_market r_of r_newMarket r_newStart r_newOf r_newCoin r_state r_kept r_tape r_brings r_seen r_seenOut r_trace ++ R) H → va_D A (mdW Y cI 0 m_status m_isThere m_kinds m_newKinds m_print m_low m_high m_lot m_taped m_latest m_length m_cursor m_token m_from m_till m_fault m_faultAt m_traced r_lane r_many r_item r_market r_of r_newMarket r_newStart r_newOf r_newCoin r_state r_kept r_tape r_brings r_seen r_seenOut r_trace ++ R) → va_S A s.heap H locs → lv_has ls 4 [(3, .int x3_84), (0, .ref (Y 0)), (1, .int w)] → W p l e (rmX 2) s m ([.ref (Y 0), .int w] : List Value).toArray below meth c H locs 0 0 Qm (F0 m 116 ls [.int y_23, .int x2_84]) := by
                  intro y_23 H locs ls ey_23 hP hD hS hl
                  refine lv_iadd hx hb dX11_count_116 ?_
                  refine lv_topi (fun x_27 ex_27 => ?_)
                  refine lv_istore_n (lv' := [(2, .int x_27), (3, .int x3_84), (0, .ref (Y 0)), (1, .int w)]) hx hb dX11_count_117 rfl hl (by decide) rfl (fun ls hl => ?_)
                  obtain ⟨x_28, ex_28⟩ : ∃ z : Int32, z = x3_84 + 1 := ⟨_, rfl⟩
                  refine lv_iinc (v := x_28) (lv' := [(3, .int x_28), (2, .int x_27), (0, .ref (Y 0)), (1, .int w)]) hx hb dX11_count_118 hl (k := 1) rfl (by rw [ex_28]; rfl) (by decide) rfl (fun ls hl => ?_)
                  refine lv_goto (tgt := 84) hx hb dX11_count_121 (by decide) ?_
                  have tx_28 : x_28.toInt = x3_84.toInt + 1 := i_inc ex_28 (by decide) (by omega) (by omega)
                  refine ih_84 x_28 x_27 H locs ls (by omega) (by omega) (by omega) hP hD hS (lv_sub hl [0, 1, 2, 3] rfl) (fun u H locs ls eu  hP hD hS hl => ?_)
                  exact kont_84 u H locs ls (eu.trans (show lX11_count_84b w m_kinds r_of r_state (n + 1) x3_84 x2_84 = lX11_count_84b w m_kinds r_of r_state n x_28 x_27 from ((if_neg c_21).trans (lt_eq ey_23 (lt_eq ex_27 (lt_eq ex_28 rfl))))).symm)  hP hD hS hl
                refine lv_icmp_ne (tgt := 107) hx hb dX11_count_95 (by decide) (fun c_24 => ?_) (fun c_24 => ?_)
                · have d_24 := i_eqn rfl (show (2 : Int32).toInt = 2 from by decide) c_24
                  refine lv_aload_n hx hb dX11_count_107 rfl (lv_at hl 2 rfl) ?_
                  refine va_get (D := D) (ci := 9) (v := .ref (Y 14)) (C := RX11) (T := TX11) (N := 35) hx hb hts iX11 hown hK hP 0 rfl rfl 14 (by decide) k37 (fun _ h9 => h9) rfl dX11_count_108 ?_
                  refine lv_bipush (v := 12) hx hb dX11_count_111 (by decide) ?_
                  refine lv_iload_n hx hb dX11_count_113 rfl (lv_at hl 0 rfl) ?_
                  refine lv_iadd hx hb dX11_count_114 ?_
                  have q_25 : vp_in (12 + x3_84) 17 := vp_in_iff.mpr (by rw [show (12 + x3_84).toInt = (12 + x3_84.toInt) from (i_addv (show (12 : Int32).toInt = 12 from by decide) rfl (by omega) (by omega))]; constructor <;> omega)
                  refine va_iald hx hb hK hP 10 0 rfl rfl q_25 dX11_count_115 ?_
                  exact J_23 (r_state (12 + x3_84).toNatClampNeg) H locs ls (Eq.symm ((if_neg c_24).trans rfl)) hP hD hS (lv_sub hl [0, 2, 3] rfl)
                · have d_24 := i_eq rfl (show (2 : Int32).toInt = 2 from by decide) c_24
                  refine lv_aload_n hx hb dX11_count_98 rfl (lv_at hl 2 rfl) ?_
                  refine lv_iload_n hx hb dX11_count_99 rfl (lv_at hl 0 rfl) ?_
                  refine lv_iconst (v := 2) hx hb dX11_count_100 (by decide) ?_
                  refine mx_callV (As := [.int x3_84, .int 2]) (rest := [.int x2_84]) ⟨hx, hb, hml, hown, hts⟩ (mtX11_told l D cI cB cK cS Y R 0 m_status m_isThere m_kinds m_newKinds m_print m_low m_high m_lot m_taped m_latest m_length m_cursor m_token m_from m_till m_fault m_faultAt m_traced r_lane r_many r_item r_market r_of r_newMarket r_newStart r_newOf r_newCoin r_state r_kept r_tape r_brings r_seen r_seenOut r_trace x3_84 2 (vp_in_iff.mpr (by rw [show (6 * x3_84 + 2).toInt = ((6 * x3_84.toInt) + 2) from (i_addv (i_mulv (show (6 : Int32).toInt = 6 from by decide) rfl (by omega) (by omega)) (show (2 : Int32).toInt = 2 from by decide) (by omega) (by omega))]; constructor <;> omega))) (cwV 2 hts gX11_count_X11_told rfl rfl rfl (by decide +kernel) ⟨Nat.le_of_ble_eq_true rfl, Nat.le_of_ble_eq_true rfl⟩) pF0_ok trivial hK hP hD hS hA 0 rfl rfl rfl rfl hl.1 rfl (Nat.le_of_ble_eq_true rfl) dX11_count_101 ⟨Nat.le_refl _, Nat.le_refl _⟩ (fun u_26 H locs eu_26 hP hD hS => ?_)
                  refine W.eq (g2 := F0 m 104 ls [.int u_26, .int x2_84]) rfl ?_
                  have hP : va_P D vwCl (mdW Y cI 0 m_status m_isThere m_kinds m_newKinds m_print m_low m_high m_lot m_taped m_latest m_length m_cursor m_token m_from m_till m_fault m_faultAt m_traced r_lane r_many r_item r_market r_of r_newMarket r_newStart r_newOf r_newCoin r_state r_kept r_tape r_brings r_seen r_seenOut r_trace ++ R) H := hP
                  have hD : va_D A (mdW Y cI 0 m_status m_isThere m_kinds m_newKinds m_print m_low m_high m_lot m_taped m_latest m_length m_cursor m_token m_from m_till m_fault m_faultAt m_traced r_lane r_many r_item r_market r_of r_newMarket r_newStart r_newOf r_newCoin r_state r_kept r_tape r_brings r_seen r_seenOut r_trace ++ R) := hD
                  refine lv_goto (tgt := 116) hx hb dX11_count_104 (by decide) ?_
                  exact J_23 u_26 H locs ls (Eq.symm ((if_pos c_24).trans (lt_eq eu_26 rfl))) hP hD hS (lv_sub hl [0, 2, 3] rfl)
          refine L_84 6 0 0 H locs ls (by decide) (by decide) (by decide) hP hD hS (lv_sub hl [0, 1, 2, 3] rfl) (fun u_29 H locs ls eu_29  hP hD hS hl => ?_)
          have hP : va_P D vwCl (mdW Y cI 0 m_status m_isThere m_kinds m_newKinds m_print m_low m_high m_lot m_taped m_latest m_length m_cursor m_token m_from m_till m_fault m_faultAt m_traced r_lane r_many r_item r_market r_of r_newMarket r_newStart r_newOf r_newCoin r_state r_kept r_tape r_brings r_seen r_seenOut r_trace ++ R) H := hP
          have hD : va_D A (mdW Y cI 0 m_status m_isThere m_kinds m_newKinds m_print m_low m_high m_lot m_taped m_latest m_length m_cursor m_token m_from m_till m_fault m_faultAt m_traced r_lane r_many r_item r_market r_of r_newMarket r_newStart r_newOf r_newCoin r_state r_kept r_tape r_brings r_seen r_seenOut r_trace ++ R) := hD
          refine lv_iload_n hx hb dX11_count_124 rfl (lv_at hl 0 rfl) ?_
          rw [hQm]
          exact mx_iret (u0 := sX11_count w m_kinds m_taped r_lane r_of r_state) (rv := (fun u => some (.int u.1))) (w1 := (fun u => mdW Y cI u.2 m_status m_isThere m_kinds m_newKinds m_print m_low m_high m_lot m_taped m_latest m_length m_cursor m_token m_from m_till m_fault m_faultAt m_traced r_lane r_many r_item r_market r_of r_newMarket r_newStart r_newOf r_newCoin r_state r_kept r_tape r_brings r_seen r_seenOut r_trace ++ R)) (u := (u_29.2, 0)) hx hb hr hlocks hK hS ((if_neg c_1).trans ((if_neg c_9).trans ((if_neg c_10).trans ((if_pos c_20).trans (lt_eq eu_29 rfl))))) hP hD rfl dX11_count_125
        · rcases Classical.em (w = 4) with c_30 | c_30
          · refine lv_tableIn (tgt := 126) hx hb dX11_count_8 (by rw [c_30]; decide) (by rw [c_30]; decide) (by rw [c_30]; rfl) (by decide) ?_
            have d_30 := i_eq rfl (show (4 : Int32).toInt = 4 from by decide) c_30
            refine lv_aload_n hx hb dX11_count_126 rfl (lv_at hl 1 rfl) ?_
            refine va_get (D := D) (ci := 9) (v := .int m_taped) (C := RX11) (T := TX11) (N := 35) hx hb hts iX11 hown hK hP 0 rfl rfl 21 (by decide) k85 (fun _ h9 => h9) rfl dX11_count_127 ?_
            rw [hQm]
            exact mx_iret (u0 := sX11_count w m_kinds m_taped r_lane r_of r_state) (rv := (fun u => some (.int u.1))) (w1 := (fun u => mdW Y cI u.2 m_status m_isThere m_kinds m_newKinds m_print m_low m_high m_lot m_taped m_latest m_length m_cursor m_token m_from m_till m_fault m_faultAt m_traced r_lane r_many r_item r_market r_of r_newMarket r_newStart r_newOf r_newCoin r_state r_kept r_tape r_brings r_seen r_seenOut r_trace ++ R)) (u := (m_taped, 0)) hx hb hr hlocks hK hS ((if_neg c_1).trans ((if_neg c_9).trans ((if_neg c_10).trans ((if_neg c_20).trans ((if_pos c_30).trans rfl))))) hP hD rfl dX11_count_130
          · refine lv_tableOut (tgt := 131) hx hb dX11_count_8 (by have := lv_neT c_1 (show (0 : Int32).toInt = 0 from by decide); have := lv_neT c_9 (show (1 : Int32).toInt = 1 from by decide); have := lv_neT c_10 (show (2 : Int32).toInt = 2 from by decide); have := lv_neT c_20 (show (3 : Int32).toInt = 3 from by decide); have := lv_neT c_30 (show (4 : Int32).toInt = 4 from by decide); omega) (by decide) ?_
            refine lv_ldc (v := (-1000001)) hx hb hown k78 dX11_count_131 ?_
            rw [hQm]
            exact mx_iret (u0 := sX11_count w m_kinds m_taped r_lane r_of r_state) (rv := (fun u => some (.int u.1))) (w1 := (fun u => mdW Y cI u.2 m_status m_isThere m_kinds m_newKinds m_print m_low m_high m_lot m_taped m_latest m_length m_cursor m_token m_from m_till m_fault m_faultAt m_traced r_lane r_many r_item r_market r_of r_newMarket r_newStart r_newOf r_newCoin r_state r_kept r_tape r_brings r_seen r_seenOut r_trace ++ R)) (u := ((-1000001), 0)) hx hb hr hlocks hK hS ((if_neg c_1).trans ((if_neg c_9).trans ((if_neg c_10).trans ((if_neg c_20).trans ((if_neg c_30).trans rfl))))) hP hD rfl dX11_count_133

def sX11_status (m_status : Int32) : Int32 × (Int32) := (m_status, 0)
set_option maxHeartbeats 4000000 in
set_option maxRecDepth 100000 in
theorem mtX11_status (l : Launch) (D : va_G) (cI cB cK cS : ClassId) (Y : Nat → Nat) (R : va_W) (m_thrown : Int32) (m_status : Int32) (m_isThere : Int32) (m_kinds : Int32) (m_newKinds : Int32) (m_print : Int32) (m_low : Int32) (m_high : Int32) (m_lot : Int32) (m_taped : Int32) (m_latest : Int32) (m_length : Int32) (m_cursor : Int32) (m_token : Int32) (m_from : Int32) (m_till : Int32) (m_fault : Int32) (m_faultAt : Int32) (m_traced : Int32) (r_lane : Nat → Int32) (r_many : Nat → Int32) (r_item : Nat → Int32) (r_market : Nat → Int32) (r_of : Nat → Int32) (r_newMarket : Nat → Int32) (r_newStart : Nat → Int32) (r_newOf : Nat → Int32) (r_newCoin : Nat → Int32) (r_state : Nat → Int32) (r_kept : Nat → Int32) (r_tape : Nat → Int32) (r_brings : Nat → Int32) (r_seen : Nat → Int32) (r_seenOut : Nat → Int32) (r_trace : Nat → Int32) : MX l yX11_status wsX11_status (rmX 1) D (tyX cI cB cK cS) pF0 (mdW Y cI m_thrown m_status m_isThere m_kinds m_newKinds m_print m_low m_high m_lot m_taped m_latest m_length m_cursor m_token m_from m_till m_fault m_faultAt m_traced r_lane r_many r_item r_market r_of r_newMarket r_newStart r_newOf r_newCoin r_state r_kept r_tape r_brings r_seen r_seenOut r_trace ++ R) [.ref (Y 0)] (sX11_status m_status) (fun u => some (.int u.1)) (fun u => mdW Y cI u.2 m_status m_isThere m_kinds m_newKinds m_print m_low m_high m_lot m_taped m_latest m_length m_cursor m_token m_from m_till m_fault m_faultAt m_traced r_lane r_many r_item r_market r_of r_newMarket r_newStart r_newOf r_newCoin r_state r_kept r_tape r_brings r_seen r_seenOut r_trace ++ R) := by
  refine mx_intro (cc := cX11_status) (maxL := 1) (ret := (some .int)) (by decide) rfl (Nat.le_of_ble_eq_true rfl) ?_
  intro p e s m below meth c A ls H locs Qm hQm hx hb hr hml hts hown hlocks hA hS hP hK hD hF hl
  have hown : s.vm.findClass RX11 = some m.cls := hown
  have hl : lv_has ls 1 [(0, .ref (Y 0))] := hl
  have k58 := hts (.fieldLink RX11 58 "PigRoundsModel" "thrown" "I") (by decide +kernel)
  have k62 := hts (.fieldLink RX11 62 "PigRoundsModel" "status" "I") (by decide +kernel)
  have iX11 : ∀ w ∈ u_ws RX11 TX11 35, w ∈ wsX11_status := by decide +kernel
  refine lv_aload_n hx hb dX11_status_0 rfl (lv_at hl 0 rfl) ?_
  refine lv_iconst (v := 0) hx hb dX11_status_1 (by decide) ?_
  refine va_put (D := D) (ci := 9) (v := .int 0) (ty := .int) (C := RX11) (T := TX11) (N := 35) hx hb hts iX11 tyX11 tyX11_ok nmX11 hown hK hP hD hS 0 rfl rfl 0 (by decide) k58 (fun _ h9 => h9) rfl (by decide +kernel) rfl rfl (Nat.le_of_ble_eq_true rfl) dX11_status_2 (fun H locs hP hD hS => ?_)
  have hP : va_P D vwCl (mdW Y cI 0 m_status m_isThere m_kinds m_newKinds m_print m_low m_high m_lot m_taped m_latest m_length m_cursor m_token m_from m_till m_fault m_faultAt m_traced r_lane r_many r_item r_market r_of r_newMarket r_newStart r_newOf r_newCoin r_state r_kept r_tape r_brings r_seen r_seenOut r_trace ++ R) H := hP
  have hD : va_D A (mdW Y cI 0 m_status m_isThere m_kinds m_newKinds m_print m_low m_high m_lot m_taped m_latest m_length m_cursor m_token m_from m_till m_fault m_faultAt m_traced r_lane r_many r_item r_market r_of r_newMarket r_newStart r_newOf r_newCoin r_state r_kept r_tape r_brings r_seen r_seenOut r_trace ++ R) := hD
  refine lv_aload_n hx hb dX11_status_5 rfl (lv_at hl 0 rfl) ?_
  refine va_get (D := D) (ci := 9) (v := .int m_status) (C := RX11) (T := TX11) (N := 35) hx hb hts iX11 hown hK hP 0 rfl rfl 1 (by decide) k62 (fun _ h9 => h9) rfl dX11_status_6 ?_
  rw [hQm]
  exact mx_iret (u0 := sX11_status m_status) (rv := (fun u => some (.int u.1))) (w1 := (fun u => mdW Y cI u.2 m_status m_isThere m_kinds m_newKinds m_print m_low m_high m_lot m_taped m_latest m_length m_cursor m_token m_from m_till m_fault m_faultAt m_traced r_lane r_many r_item r_market r_of r_newMarket r_newStart r_newOf r_newCoin r_state r_kept r_tape r_brings r_seen r_seenOut r_trace ++ R)) (u := (m_status, 0)) hx hb hr hlocks hK hS rfl hP hD rfl dX11_status_9

def lX11_shown_196 (nn : Int32) (r_item : Nat → Int32) (x_11 : Int32) (y_14 : Int32) (y_18 : Int32) : Nat → Int32 → Int32 → Int32 × Int32
  | 0, x10_196, x9_196 => (x10_196, x9_196)
  | n + 1, x10_196, x9_196 => if (x_11 + (4 * nn)) ≤ x10_196 then ((x10_196, x9_196)) else (lt (if x9_196 = 0 then (0) else (lt (sX11_guessBy y_14 y_18 (r_item x10_196.toNatClampNeg) (r_item (x10_196 + 1).toNatClampNeg) (r_item (x10_196 + 2).toNatClampNeg)) (fun u_30 : Int32 => if u_30 = (r_item (x10_196 + 3).toNatClampNeg) then (1) else (0)))) (fun y_25 : Int32 => lt (x10_196 + 4) (fun x_33 : Int32 => lX11_shown_196 nn r_item x_11 y_14 y_18 n x_33 y_25)))

def lX11_shown_130 (nn : Int32) (r_item : Nat → Int32) (x_11 : Int32) : Nat → Int32 → Int32 → Int32 × Int32
  | 0, x6_130, x5_130 => (x6_130, x5_130)
  | n + 1, x6_130, x5_130 => if 13 ≤ x6_130 then ((x6_130, x5_130)) else (lt (if x6_130 = 0 then (1) else (if 3 ≤ x6_130 then (if 12 ≤ x6_130 then (4) else (3)) else (2))) (fun y_14 : Int32 => lt (if 3 ≤ x6_130 then ((x6_130 - 2)) else ((x6_130 + 1))) (fun y_18 : Int32 => lt (lX11_shown_196 nn r_item x_11 y_14 y_18 17 x_11 1) (fun u_34 : Int32 × Int32 => lt (if u_34.2 = 0 then (0) else (((1 : Int32) <<< (x6_130 &&& 31)))) (fun y_35 : Int32 => lt (x5_130 ||| y_35) (fun x_37 : Int32 => lt (x6_130 + 1) (fun x_38 : Int32 => lX11_shown_130 nn r_item x_11 n x_38 x_37)))))))

def lX11_shown_81 (nn : Int32) (m_status : Int32) (r_item : Nat → Int32) (x_11 : Int32) : Nat → Int32 → Int32 × (Int32) × (Int32)
  | 0, x5_81 => (0, 0, m_status)
  | n + 1, x5_81 => if (4 * nn) ≤ x5_81 then (lt (lX11_shown_130 nn r_item x_11 14 0 0) (fun u_39 : Int32 × Int32 => (u_39.2, 0, 0))) else (lt (sX11_in ((r_item (x_11 + x5_81).toNatClampNeg).toInt64) 0 99) (fun u_41 : Int32 => if u_41 = 0 then (((-1000001), 0, m_status)) else (lt (x5_81 + 1) (fun x_43 : Int32 => lX11_shown_81 nn m_status r_item x_11 n x_43))))

def sX11_shown (k : Int32) (i : Int32) (nn : Int32) (m_status : Int32) (r_lane : Nat → Int32) (r_many : Nat → Int32) (r_item : Nat → Int32) : Int32 × (Int32) × (Int32) := lt (sX11_isSheet k) (fun u_1 : Int32 => if u_1 = 0 then (((-1000001), 0, m_status)) else (lt (sX11_in nn.toInt64 1 15) (fun u_3 : Int32 => if u_3 = 0 then (((-1000001), 0, m_status)) else (if 0 ≤ (r_lane k.toNatClampNeg) then (if i < 0 then (lt (sX11_finding 2) (fun u_8 : Int32 × (Int32) => (u_8.1, 0, u_8.2))) else (if (lg_cmp (i.toInt64 + ((4 * nn).toInt64)) ((r_many k.toNatClampNeg).toInt64)) ≤ 0 then (lt ((60 * k) + i) (fun x_11 : Int32 => lX11_shown_81 nn m_status r_item x_11 61 0)) else (lt (sX11_finding 2) (fun u_44 : Int32 × (Int32) => (u_44.1, 0, u_44.2))))) else (lt (sX11_finding 1) (fun u_45 : Int32 × (Int32) => (u_45.1, 0, u_45.2)))))))
set_option maxHeartbeats 4000000 in
set_option maxRecDepth 100000 in
theorem mtX11_shown (l : Launch) (D : va_G) (cI cB cK cS : ClassId) (Y : Nat → Nat) (R : va_W) (m_thrown : Int32) (m_status : Int32) (m_isThere : Int32) (m_kinds : Int32) (m_newKinds : Int32) (m_print : Int32) (m_low : Int32) (m_high : Int32) (m_lot : Int32) (m_taped : Int32) (m_latest : Int32) (m_length : Int32) (m_cursor : Int32) (m_token : Int32) (m_from : Int32) (m_till : Int32) (m_fault : Int32) (m_faultAt : Int32) (m_traced : Int32) (r_lane : Nat → Int32) (r_many : Nat → Int32) (r_item : Nat → Int32) (r_market : Nat → Int32) (r_of : Nat → Int32) (r_newMarket : Nat → Int32) (r_newStart : Nat → Int32) (r_newOf : Nat → Int32) (r_newCoin : Nat → Int32) (r_state : Nat → Int32) (r_kept : Nat → Int32) (r_tape : Nat → Int32) (r_brings : Nat → Int32) (r_seen : Nat → Int32) (r_seenOut : Nat → Int32) (r_trace : Nat → Int32) (k : Int32) (i : Int32) (nn : Int32) (hmn : ∀ i, i < 8 → 0 ≤ (r_many i).toInt ∧ (r_many i).toInt ≤ 60) : MX l yX11_shown wsX11_shown (rmX 3) D (tyX cI cB cK cS) pF0 (mdW Y cI m_thrown m_status m_isThere m_kinds m_newKinds m_print m_low m_high m_lot m_taped m_latest m_length m_cursor m_token m_from m_till m_fault m_faultAt m_traced r_lane r_many r_item r_market r_of r_newMarket r_newStart r_newOf r_newCoin r_state r_kept r_tape r_brings r_seen r_seenOut r_trace ++ R) [.ref (Y 0), .int k, .int i, .int nn] (sX11_shown k i nn m_status r_lane r_many r_item) (fun u => some (.int u.1)) (fun u => mdW Y cI u.2.1 u.2.2 m_isThere m_kinds m_newKinds m_print m_low m_high m_lot m_taped m_latest m_length m_cursor m_token m_from m_till m_fault m_faultAt m_traced r_lane r_many r_item r_market r_of r_newMarket r_newStart r_newOf r_newCoin r_state r_kept r_tape r_brings r_seen r_seenOut r_trace ++ R) := by
  refine mx_intro (cc := cX11_shown) (maxL := 11) (ret := (some .int)) (by decide) rfl (Nat.le_of_ble_eq_true rfl) ?_
  intro p e s m below meth c A ls H locs Qm hQm hx hb hr hml hts hown hlocks hA hS hP hK hD hF hl
  have hown : s.vm.findClass RX11 = some m.cls := hown
  have hl : lv_has ls 11 [(0, .ref (Y 0)), (1, .int k), (2, .int i), (3, .int nn)] := hl
  have k58 := hts (.fieldLink RX11 58 "PigRoundsModel" "thrown" "I") (by decide +kernel)
  have k78 := hts (.constant RX11 78 (-1000001)) (by decide +kernel)
  have k269 := hts (.constantLong RX11 269 (15)) (by decide +kernel)
  have k7 := hts (.fieldLink RX11 7 "PigRoundsModel" "lane" "[I") (by decide +kernel)
  have k13 := hts (.fieldLink RX11 13 "PigRoundsModel" "many" "[I") (by decide +kernel)
  have k62 := hts (.fieldLink RX11 62 "PigRoundsModel" "status" "I") (by decide +kernel)
  have k16 := hts (.fieldLink RX11 16 "PigRoundsModel" "item" "[I") (by decide +kernel)
  have k229 := hts (.constantLong RX11 229 (99)) (by decide +kernel)
  have iX11 : ∀ w ∈ u_ws RX11 TX11 35, w ∈ wsX11_shown := by decide +kernel
  refine lv_aload_n hx hb dX11_shown_0 rfl (lv_at hl 0 rfl) ?_
  refine lv_iconst (v := 0) hx hb dX11_shown_1 (by decide) ?_
  refine va_put (D := D) (ci := 9) (v := .int 0) (ty := .int) (C := RX11) (T := TX11) (N := 35) hx hb hts iX11 tyX11 tyX11_ok nmX11 hown hK hP hD hS 0 rfl rfl 0 (by decide) k58 (fun _ h9 => h9) rfl (by decide +kernel) rfl rfl (Nat.le_of_ble_eq_true rfl) dX11_shown_2 (fun H locs hP hD hS => ?_)
  have hP : va_P D vwCl (mdW Y cI 0 m_status m_isThere m_kinds m_newKinds m_print m_low m_high m_lot m_taped m_latest m_length m_cursor m_token m_from m_till m_fault m_faultAt m_traced r_lane r_many r_item r_market r_of r_newMarket r_newStart r_newOf r_newCoin r_state r_kept r_tape r_brings r_seen r_seenOut r_trace ++ R) H := hP
  have hD : va_D A (mdW Y cI 0 m_status m_isThere m_kinds m_newKinds m_print m_low m_high m_lot m_taped m_latest m_length m_cursor m_token m_from m_till m_fault m_faultAt m_traced r_lane r_many r_item r_market r_of r_newMarket r_newStart r_newOf r_newCoin r_state r_kept r_tape r_brings r_seen r_seenOut r_trace ++ R) := hD
  refine lv_iload_n hx hb dX11_shown_5 rfl (lv_at hl 1 rfl) ?_
  refine mx_callS (As := [.int k]) (rest := []) ⟨hx, hb, hml, hown, hts⟩ (mtX11_isSheet l D cI cB cK cS (mdW Y cI 0 m_status m_isThere m_kinds m_newKinds m_print m_low m_high m_lot m_taped m_latest m_length m_cursor m_token m_from m_till m_fault m_faultAt m_traced r_lane r_many r_item r_market r_of r_newMarket r_newStart r_newOf r_newCoin r_state r_kept r_tape r_brings r_seen r_seenOut r_trace ++ R) k) (va_cwS 1 hts gX11_shown_X11_isSheet rfl rfl rfl (by decide +kernel) ⟨Nat.le_of_ble_eq_true rfl, Nat.le_of_ble_eq_true rfl⟩) pF0_ok trivial hK hP hD hS hA rfl hl.1 rfl (Nat.le_of_ble_eq_true rfl) dX11_shown_6 ⟨Nat.le_refl _, Nat.le_refl _⟩ (fun u_1 H locs eu_1 hP hD hS => ?_)
  refine W.eq (g2 := F0 m 9 ls [.int u_1]) rfl ?_
  have hP : va_P D vwCl (mdW Y cI 0 m_status m_isThere m_kinds m_newKinds m_print m_low m_high m_lot m_taped m_latest m_length m_cursor m_token m_from m_till m_fault m_faultAt m_traced r_lane r_many r_item r_market r_of r_newMarket r_newStart r_newOf r_newCoin r_state r_kept r_tape r_brings r_seen r_seenOut r_trace ++ R) H := hP
  have hD : va_D A (mdW Y cI 0 m_status m_isThere m_kinds m_newKinds m_print m_low m_high m_lot m_taped m_latest m_length m_cursor m_token m_from m_till m_fault m_faultAt m_traced r_lane r_many r_item r_market r_of r_newMarket r_newStart r_newOf r_newCoin r_state r_kept r_tape r_brings r_seen r_seenOut r_trace ++ R) := hD
  refine lv_if_eq (tgt := 24) hx hb dX11_shown_9 (by decide) (fun c_2 => ?_) (fun c_2 => ?_)
  · have d_2 := i_eq rfl (show (0 : Int32).toInt = 0 from by decide) c_2
    refine lv_ldc (v := (-1000001)) hx hb hown k78 dX11_shown_24 ?_
    rw [hQm]
    exact mx_iret (u0 := sX11_shown k i nn m_status r_lane r_many r_item) (rv := (fun u => some (.int u.1))) (w1 := (fun u => mdW Y cI u.2.1 u.2.2 m_isThere m_kinds m_newKinds m_print m_low m_high m_lot m_taped m_latest m_length m_cursor m_token m_from m_till m_fault m_faultAt m_traced r_lane r_many r_item r_market r_of r_newMarket r_newStart r_newOf r_newCoin r_state r_kept r_tape r_brings r_seen r_seenOut r_trace ++ R)) (u := ((-1000001), 0, m_status)) hx hb hr hlocks hK hS (lt_eq eu_1 ((if_pos c_2).trans rfl)) hP hD rfl dX11_shown_26
  · have d_2 := i_eqn rfl (show (0 : Int32).toInt = 0 from by decide) c_2
    have dt_2 := sX11_isSheet_t eu_1 c_2
    refine lv_iload_n hx hb dX11_shown_12 rfl (lv_at hl 3 rfl) ?_
    refine lv_i2l (v := nn.toInt64) hx hb dX11_shown_13 rfl ?_
    refine lv_lconst (v := 1) hx hb dX11_shown_14 (by decide) ?_
    refine lv_ldc2 (v := 15) hx hb hown k269 dX11_shown_15 ?_
    refine mx_callS (As := [.long nn.toInt64, .long 1, .long 15]) (rest := []) ⟨hx, hb, hml, hown, hts⟩ (mtX11_in l D cI cB cK cS (mdW Y cI 0 m_status m_isThere m_kinds m_newKinds m_print m_low m_high m_lot m_taped m_latest m_length m_cursor m_token m_from m_till m_fault m_faultAt m_traced r_lane r_many r_item r_market r_of r_newMarket r_newStart r_newOf r_newCoin r_state r_kept r_tape r_brings r_seen r_seenOut r_trace ++ R) nn.toInt64 1 15) (va_cwS 3 hts gX11_shown_X11_in rfl rfl rfl (by decide +kernel) ⟨Nat.le_of_ble_eq_true rfl, Nat.le_of_ble_eq_true rfl⟩) pF0_ok trivial hK hP hD hS hA rfl hl.1 rfl (Nat.le_of_ble_eq_true rfl) dX11_shown_18 ⟨Nat.le_refl _, Nat.le_refl _⟩ (fun u_3 H locs eu_3 hP hD hS => ?_)
    refine W.eq (g2 := F0 m 21 ls [.int u_3]) rfl ?_
    have hP : va_P D vwCl (mdW Y cI 0 m_status m_isThere m_kinds m_newKinds m_print m_low m_high m_lot m_taped m_latest m_length m_cursor m_token m_from m_till m_fault m_faultAt m_traced r_lane r_many r_item r_market r_of r_newMarket r_newStart r_newOf r_newCoin r_state r_kept r_tape r_brings r_seen r_seenOut r_trace ++ R) H := hP
    have hD : va_D A (mdW Y cI 0 m_status m_isThere m_kinds m_newKinds m_print m_low m_high m_lot m_taped m_latest m_length m_cursor m_token m_from m_till m_fault m_faultAt m_traced r_lane r_many r_item r_market r_of r_newMarket r_newStart r_newOf r_newCoin r_state r_kept r_tape r_brings r_seen r_seenOut r_trace ++ R) := hD
    refine lv_if_ne (tgt := 27) hx hb dX11_shown_21 (by decide) (fun c_4 => ?_) (fun c_4 => ?_)
    · have d_4 := i_eqn rfl (show (0 : Int32).toInt = 0 from by decide) c_4
      have dt_4 := sX11_in_t ((Int32.toInt_toInt64 _).trans rfl) (show (1 : Int64).toInt = 1 from by decide) (show (15 : Int64).toInt = 15 from by decide) eu_3 c_4
      refine lv_aload_n hx hb dX11_shown_27 rfl (lv_at hl 0 rfl) ?_
      refine va_get (D := D) (ci := 9) (v := .ref (Y 2)) (C := RX11) (T := TX11) (N := 35) hx hb hts iX11 hown hK hP 0 rfl rfl 2 (by decide) k7 (fun _ h9 => h9) rfl dX11_shown_28 ?_
      refine lv_iload_n hx hb dX11_shown_31 rfl (lv_at hl 1 rfl) ?_
      have q_5 : vp_in k 8 := vp_in_iff.mpr ⟨by omega, by omega⟩
      refine va_iald hx hb hK hP 1 0 rfl rfl q_5 dX11_shown_32 ?_
      refine lv_if_ge (tgt := 42) hx hb dX11_shown_33 (by decide) (fun c_6 => ?_) (fun c_6 => ?_)
      · have d_6 := i_le (show (0 : Int32).toInt = 0 from by decide) rfl c_6
        refine lv_iload_n hx hb dX11_shown_42 rfl (lv_at hl 2 rfl) ?_
        refine lv_if_lt (tgt := 64) hx hb dX11_shown_43 (by decide) (fun c_7 => ?_) (fun c_7 => ?_)
        · have d_7 := i_lt rfl (show (0 : Int32).toInt = 0 from by decide) c_7
          refine lv_aload_n hx hb dX11_shown_64 rfl (lv_at hl 0 rfl) ?_
          refine lv_iconst (v := 2) hx hb dX11_shown_65 (by decide) ?_
          refine mx_callV (As := [.int 2]) (rest := []) ⟨hx, hb, hml, hown, hts⟩ (mtX11_finding l D cI cB cK cS Y R 0 m_status m_isThere m_kinds m_newKinds m_print m_low m_high m_lot m_taped m_latest m_length m_cursor m_token m_from m_till m_fault m_faultAt m_traced r_lane r_many r_item r_market r_of r_newMarket r_newStart r_newOf r_newCoin r_state r_kept r_tape r_brings r_seen r_seenOut r_trace 2) (cwV 1 hts gX11_shown_X11_finding rfl rfl rfl (by decide +kernel) ⟨Nat.le_of_ble_eq_true rfl, Nat.le_of_ble_eq_true rfl⟩) pF0_ok trivial hK hP hD hS hA 0 rfl rfl rfl rfl hl.1 rfl (Nat.le_of_ble_eq_true rfl) dX11_shown_66 ⟨Nat.le_refl _, Nat.le_refl _⟩ (fun u_8 H locs eu_8 hP hD hS => ?_)
          refine W.eq (g2 := F0 m 69 ls [.int u_8.1]) rfl ?_
          have hP : va_P D vwCl (mdW Y cI 0 u_8.2 m_isThere m_kinds m_newKinds m_print m_low m_high m_lot m_taped m_latest m_length m_cursor m_token m_from m_till m_fault m_faultAt m_traced r_lane r_many r_item r_market r_of r_newMarket r_newStart r_newOf r_newCoin r_state r_kept r_tape r_brings r_seen r_seenOut r_trace ++ R) H := hP
          have hD : va_D A (mdW Y cI 0 u_8.2 m_isThere m_kinds m_newKinds m_print m_low m_high m_lot m_taped m_latest m_length m_cursor m_token m_from m_till m_fault m_faultAt m_traced r_lane r_many r_item r_market r_of r_newMarket r_newStart r_newOf r_newCoin r_state r_kept r_tape r_brings r_seen r_seenOut r_trace ++ R) := hD
          rw [hQm]
          exact mx_iret (u0 := sX11_shown k i nn m_status r_lane r_many r_item) (rv := (fun u => some (.int u.1))) (w1 := (fun u => mdW Y cI u.2.1 u.2.2 m_isThere m_kinds m_newKinds m_print m_low m_high m_lot m_taped m_latest m_length m_cursor m_token m_from m_till m_fault m_faultAt m_traced r_lane r_many r_item r_market r_of r_newMarket r_newStart r_newOf r_newCoin r_state r_kept r_tape r_brings r_seen r_seenOut r_trace ++ R)) (u := (u_8.1, 0, u_8.2)) hx hb hr hlocks hK hS (lt_eq eu_1 ((if_neg c_2).trans (lt_eq eu_3 ((if_neg c_4).trans ((if_pos c_6).trans ((if_pos c_7).trans (lt_eq eu_8 rfl))))))) hP hD rfl dX11_shown_69
        · have d_7 := i_ltn rfl (show (0 : Int32).toInt = 0 from by decide) c_7
          have hm_k := hmn k.toNatClampNeg (vp_lt (vp_in_iff.mpr ⟨by omega, by omega⟩))
          refine lv_iload_n hx hb dX11_shown_46 rfl (lv_at hl 2 rfl) ?_
          refine lv_i2l (v := i.toInt64) hx hb dX11_shown_47 rfl ?_
          refine lv_iconst (v := 4) hx hb dX11_shown_48 (by decide) ?_
          refine lv_iload_n hx hb dX11_shown_49 rfl (lv_at hl 3 rfl) ?_
          refine lv_imul hx hb dX11_shown_50 ?_
          refine lv_i2l (v := (4 * nn).toInt64) hx hb dX11_shown_51 rfl ?_
          refine lv_ladd hx hb dX11_shown_52 ?_
          refine lv_aload_n hx hb dX11_shown_53 rfl (lv_at hl 0 rfl) ?_
          refine va_get (D := D) (ci := 9) (v := .ref (Y 3)) (C := RX11) (T := TX11) (N := 35) hx hb hts iX11 hown hK hP 0 rfl rfl 3 (by decide) k13 (fun _ h9 => h9) rfl dX11_shown_54 ?_
          refine lv_iload_n hx hb dX11_shown_57 rfl (lv_at hl 1 rfl) ?_
          have q_9 : vp_in k 8 := vp_in_iff.mpr ⟨by omega, by omega⟩
          refine va_iald hx hb hK hP 2 0 rfl rfl q_9 dX11_shown_58 ?_
          refine lv_i2l (v := (r_many k.toNatClampNeg).toInt64) hx hb dX11_shown_59 rfl ?_
          refine W.lcmp hx hb dX11_shown_60 ?_
          refine lv_if_le (tgt := 70) hx hb dX11_shown_61 (by decide) (fun c_10 => ?_) (fun c_10 => ?_)
          · have d_10 := i_le rfl (show (0 : Int32).toInt = 0 from by decide) c_10
            have dl2 := l_sum_le2 c_10
            have d4 : (4 * nn).toInt = 4 * nn.toInt := i_mulv (show (4 : Int32).toInt = 4 from by decide) rfl (by omega) (by omega)
            refine lv_bipush (v := 60) hx hb dX11_shown_70 (by decide) ?_
            refine lv_iload_n hx hb dX11_shown_72 rfl (lv_at hl 1 rfl) ?_
            refine lv_imul hx hb dX11_shown_73 ?_
            refine lv_iload_n hx hb dX11_shown_74 rfl (lv_at hl 2 rfl) ?_
            refine lv_iadd hx hb dX11_shown_75 ?_
            refine lv_topi (fun x_11 ex_11 => ?_)
            refine lv_istore (lv' := [(4, .int x_11), (0, .ref (Y 0)), (1, .int k), (2, .int i), (3, .int nn)]) hx hb dX11_shown_76 hl (by decide) rfl (fun ls hl => ?_)
            have dx4 : x_11.toInt = ((60 * k.toInt) + i.toInt) := by rw [ex_11]; exact (i_addv (i_mulv (show (60 : Int32).toInt = 60 from by decide) rfl (by omega) (by omega)) rfl (by omega) (by omega))
            refine lv_iconst (v := 0) hx hb dX11_shown_78 (by decide) ?_
            refine lv_istore (lv' := [(5, .int 0), (4, .int x_11), (0, .ref (Y 0)), (1, .int k), (2, .int i), (3, .int nn)]) hx hb dX11_shown_79 hl (by decide) rfl (fun ls hl => ?_)
            have L_81 : ∀ (n : Nat) (x5_81 : Int32) (H : Heap) (locs : List Loc) (ls : Array Slot), 0 ≤ x5_81.toInt → x5_81.toInt ≤ 60 → (60 : Int) < x5_81.toInt + ((n : Nat) : Int) → (sX11_shown k i nn m_status r_lane r_many r_item = lX11_shown_81 nn m_status r_item x_11 n x5_81) → va_P D vwCl (mdW Y cI 0 m_status m_isThere m_kinds m_newKinds m_print m_low m_high m_lot m_taped m_latest m_length m_cursor m_token m_from m_till m_fault m_faultAt m_traced r_lane r_many r_item r_market r_of r_newMarket r_newStart r_newOf r_newCoin r_state r_kept r_tape r_brings r_seen r_seenOut r_trace ++ R) H → va_D A (mdW Y cI 0 m_status m_isThere m_kinds m_newKinds m_print m_low m_high m_lot m_taped m_latest m_length m_cursor m_token m_from m_till m_fault m_faultAt m_traced r_lane r_many r_item r_market r_of r_newMarket r_newStart r_newOf r_newCoin r_state r_kept r_tape r_brings r_seen r_seenOut r_trace ++ R) → va_S A s.heap H locs → lv_has ls 11 [(5, .int x5_81), (4, .int x_11), (0, .ref (Y 0)), (3, .int nn)] → W p l e (rmX 3) s m ([.ref (Y 0), .int k, .int i, .int nn] : List Value).toArray below meth c H locs 0 0 Qm (F0 m 81 ls []) := by
              intro n
              induction n with
              | zero =>
                intro x5_81 H locs ls iv_81_0 iv_81_1 iv_81_2 hT_81 hP hD hS hl
                exfalso; omega
              | succ n ih_81 =>
                intro x5_81 H locs ls iv_81_0 iv_81_1 iv_81_2 hT_81 hP hD hS hl
                refine lv_iload hx hb dX11_shown_81 (lv_at hl 0 rfl) ?_
                refine lv_iconst (v := 4) hx hb dX11_shown_83 (by decide) ?_
                refine lv_iload_n hx hb dX11_shown_84 rfl (lv_at hl 3 rfl) ?_
                refine lv_imul hx hb dX11_shown_85 ?_
                refine lv_icmp_ge (tgt := 119) hx hb dX11_shown_86 (by decide) (fun c_12 => ?_) (fun c_12 => ?_)
                · have d_12 := i_le (i_mulv (show (4 : Int32).toInt = 4 from by decide) rfl (by omega) (by omega)) rfl c_12
                  refine lv_aload_n hx hb dX11_shown_119 rfl (lv_at hl 2 rfl) ?_
                  refine lv_iconst (v := 0) hx hb dX11_shown_120 (by decide) ?_
                  refine va_put (D := D) (ci := 9) (v := .int 0) (ty := .int) (C := RX11) (T := TX11) (N := 35) hx hb hts iX11 tyX11 tyX11_ok nmX11 hown hK hP hD hS 0 rfl rfl 1 (by decide) k62 (fun _ h9 => h9) rfl (by decide +kernel) rfl rfl (Nat.le_of_ble_eq_true rfl) dX11_shown_121 (fun H locs hP hD hS => ?_)
                  have hP : va_P D vwCl (mdW Y cI 0 0 m_isThere m_kinds m_newKinds m_print m_low m_high m_lot m_taped m_latest m_length m_cursor m_token m_from m_till m_fault m_faultAt m_traced r_lane r_many r_item r_market r_of r_newMarket r_newStart r_newOf r_newCoin r_state r_kept r_tape r_brings r_seen r_seenOut r_trace ++ R) H := hP
                  have hD : va_D A (mdW Y cI 0 0 m_isThere m_kinds m_newKinds m_print m_low m_high m_lot m_taped m_latest m_length m_cursor m_token m_from m_till m_fault m_faultAt m_traced r_lane r_many r_item r_market r_of r_newMarket r_newStart r_newOf r_newCoin r_state r_kept r_tape r_brings r_seen r_seenOut r_trace ++ R) := hD
                  refine lv_iconst (v := 0) hx hb dX11_shown_124 (by decide) ?_
                  refine lv_istore (lv' := [(5, .int 0), (4, .int x_11), (0, .ref (Y 0)), (3, .int nn)]) hx hb dX11_shown_125 hl (by decide) rfl (fun ls hl => ?_)
                  refine lv_iconst (v := 0) hx hb dX11_shown_127 (by decide) ?_
                  refine lv_istore (lv' := [(6, .int 0), (5, .int 0), (4, .int x_11), (0, .ref (Y 0)), (3, .int nn)]) hx hb dX11_shown_128 hl (by decide) rfl (fun ls hl => ?_)
                  have L_130 : ∀ (n : Nat) (x6_130 : Int32) (x5_130 : Int32) (H : Heap) (locs : List Loc) (ls : Array Slot), 0 ≤ x6_130.toInt → x6_130.toInt ≤ 13 → (13 : Int) < x6_130.toInt + ((n : Nat) : Int) → va_P D vwCl (mdW Y cI 0 0 m_isThere m_kinds m_newKinds m_print m_low m_high m_lot m_taped m_latest m_length m_cursor m_token m_from m_till m_fault m_faultAt m_traced r_lane r_many r_item r_market r_of r_newMarket r_newStart r_newOf r_newCoin r_state r_kept r_tape r_brings r_seen r_seenOut r_trace ++ R) H → va_D A (mdW Y cI 0 0 m_isThere m_kinds m_newKinds m_print m_low m_high m_lot m_taped m_latest m_length m_cursor m_token m_from m_till m_fault m_faultAt m_traced r_lane r_many r_item r_market r_of r_newMarket r_newStart r_newOf r_newCoin r_state r_kept r_tape r_brings r_seen r_seenOut r_trace ++ R) → va_S A s.heap H locs → lv_has ls 11 [(6, .int x6_130), (5, .int x5_130), (4, .int x_11), (0, .ref (Y 0)), (3, .int nn)] → (∀ (u : Int32 × Int32) (H : Heap) (locs : List Loc) (ls : Array Slot), u = lX11_shown_130 nn r_item x_11 n x6_130 x5_130 → va_P D vwCl (mdW Y cI 0 0 m_isThere m_kinds m_newKinds m_print m_low m_high m_lot m_taped m_latest m_length m_cursor m_token m_from m_till m_fault m_faultAt m_traced r_lane r_many r_item r_market r_of r_newMarket r_newStart r_newOf r_newCoin r_state r_kept r_tape r_brings r_seen r_seenOut r_trace ++ R) H → va_D A (mdW Y cI 0 0 m_isThere m_kinds m_newKinds m_print m_low m_high m_lot m_taped m_latest m_length m_cursor m_token m_from m_till m_fault m_faultAt m_traced r_lane r_many r_item r_market r_of r_newMarket r_newStart r_newOf r_newCoin r_state r_kept r_tape r_brings r_seen r_seenOut r_trace ++ R) → va_S A s.heap H locs → lv_has ls 11 [(5, .int u.2)] → W p l e (rmX 3) s m ([.ref (Y 0), .int k, .int i, .int nn] : List Value).toArray below meth c H locs 0 0 Qm (F0 m 293 ls [])) → W p l e (rmX 3) s m ([.ref (Y 0), .int k, .int i, .int nn] : List Value).toArray below meth c H locs 0 0 Qm (F0 m 130 ls []) := by
                    intro n
                    induction n with
                    | zero =>
                      intro x6_130 x5_130 H locs ls iv_130_0 iv_130_1 iv_130_2 hP hD hS hl kont_130
                      exfalso; omega
                    | succ n ih_130 =>
                      intro x6_130 x5_130 H locs ls iv_130_0 iv_130_1 iv_130_2 hP hD hS hl kont_130
                      refine lv_iload hx hb dX11_shown_130 (lv_at hl 0 rfl) ?_
                      refine lv_bipush (v := 13) hx hb dX11_shown_132 (by decide) ?_
                      refine lv_icmp_ge (tgt := 293) hx hb dX11_shown_134 (by decide) (fun c_13 => ?_) (fun c_13 => ?_)
                      · have d_13 := i_le (show (13 : Int32).toInt = 13 from by decide) rfl c_13
                        exact kont_130 (x6_130, x5_130) H locs ls (show lX11_shown_130 nn r_item x_11 (n + 1) x6_130 x5_130 = (x6_130, x5_130) from ((if_pos c_13).trans rfl)).symm  hP hD hS (lv_sub hl [1] rfl)
                      · have d_13 := i_len (show (13 : Int32).toInt = 13 from by decide) rfl c_13
                        refine lv_iload hx hb dX11_shown_137 (lv_at hl 0 rfl) ?_
                        have J_14 : ∀ (y_14 : Int32) (H : Heap) (locs : List Loc) (ls : Array Slot), y_14 = (if x6_130 = 0 then (1) else (if 3 ≤ x6_130 then (if 12 ≤ x6_130 then (4) else (3)) else (2))) → va_P D vwCl (mdW Y cI 0 0 m_isThere m_kinds m_newKinds m_print m_low m_high m_lot m_taped m_latest m_length m_cursor m_token m_from m_till m_fault m_faultAt m_traced r_lane r_many r_item r_market r_of r_newMarket r_newStart r_newOf r_newCoin r_state r_kept r_tape r_brings r_seen r_seenOut r_trace ++ R) H → va_D A (mdW Y cI 0 0 m_isThere m_kinds m_newKinds m_print m_low m_high m_lot m_taped m_latest m_length m_cursor m_token m_from m_till m_fault m_faultAt m_traced r_lane r_many r_item r_market r_of r_newMarket r_newStart r_newOf r_newCoin r_state r_kept r_tape r_brings r_seen r_seenOut r_trace ++ R) → va_S A s.heap H locs → lv_has ls 11 [(6, .int x6_130), (5, .int x5_130), (4, .int x_11), (0, .ref (Y 0)), (3, .int nn)] → W p l e (rmX 3) s m ([.ref (Y 0), .int k, .int i, .int nn] : List Value).toArray below meth c H locs 0 0 Qm (F0 m 168 ls [.int y_14]) := by
                          intro y_14 H locs ls ey_14 hP hD hS hl
                          refine lv_istore (lv' := [(7, .int y_14), (6, .int x6_130), (5, .int x5_130), (4, .int x_11), (0, .ref (Y 0)), (3, .int nn)]) hx hb dX11_shown_168 hl (by decide) rfl (fun ls hl => ?_)
                          refine lv_iload hx hb dX11_shown_170 (lv_at hl 1 rfl) ?_
                          refine lv_iconst (v := 3) hx hb dX11_shown_172 (by decide) ?_
                          have J_18 : ∀ (y_18 : Int32) (H : Heap) (locs : List Loc) (ls : Array Slot), y_18 = (if 3 ≤ x6_130 then ((x6_130 - 2)) else ((x6_130 + 1))) → va_P D vwCl (mdW Y cI 0 0 m_isThere m_kinds m_newKinds m_print m_low m_high m_lot m_taped m_latest m_length m_cursor m_token m_from m_till m_fault m_faultAt m_traced r_lane r_many r_item r_market r_of r_newMarket r_newStart r_newOf r_newCoin r_state r_kept r_tape r_brings r_seen r_seenOut r_trace ++ R) H → va_D A (mdW Y cI 0 0 m_isThere m_kinds m_newKinds m_print m_low m_high m_lot m_taped m_latest m_length m_cursor m_token m_from m_till m_fault m_faultAt m_traced r_lane r_many r_item r_market r_of r_newMarket r_newStart r_newOf r_newCoin r_state r_kept r_tape r_brings r_seen r_seenOut r_trace ++ R) → va_S A s.heap H locs → lv_has ls 11 [(7, .int y_14), (6, .int x6_130), (5, .int x5_130), (4, .int x_11), (0, .ref (Y 0)), (3, .int nn)] → W p l e (rmX 3) s m ([.ref (Y 0), .int k, .int i, .int nn] : List Value).toArray below meth c H locs 0 0 Qm (F0 m 187 ls [.int y_18]) := by
                            intro y_18 H locs ls ey_18 hP hD hS hl
                            refine lv_istore (lv' := [(8, .int y_18), (7, .int y_14), (6, .int x6_130), (5, .int x5_130), (4, .int x_11), (0, .ref (Y 0)), (3, .int nn)]) hx hb dX11_shown_187 hl (by decide) rfl (fun ls hl => ?_)
                            refine lv_iconst (v := 1) hx hb dX11_shown_189 (by decide) ?_
                            refine lv_istore (lv' := [(9, .int 1), (8, .int y_18), (7, .int y_14), (6, .int x6_130), (5, .int x5_130), (4, .int x_11), (0, .ref (Y 0)), (3, .int nn)]) hx hb dX11_shown_190 hl (by decide) rfl (fun ls hl => ?_)
                            refine lv_iload hx hb dX11_shown_192 (lv_at hl 5 rfl) ?_
                            refine lv_istore (lv' := [(10, .int x_11), (9, .int 1), (8, .int y_18), (7, .int y_14), (6, .int x6_130), (5, .int x5_130), (4, .int x_11), (0, .ref (Y 0)), (3, .int nn)]) hx hb dX11_shown_194 hl (by decide) rfl (fun ls hl => ?_)
                            have L_196 : ∀ (n : Nat) (x10_196 : Int32) (x9_196 : Int32) (H : Heap) (locs : List Loc) (ls : Array Slot), x_11.toInt ≤ x10_196.toInt → x10_196.toInt ≤ x_11.toInt + 60 → (x10_196.toInt - x_11.toInt) % 4 = 0 → x_11.toInt + 64 < x10_196.toInt + 4 * ((n : Nat) : Int) → va_P D vwCl (mdW Y cI 0 0 m_isThere m_kinds m_newKinds m_print m_low m_high m_lot m_taped m_latest m_length m_cursor m_token m_from m_till m_fault m_faultAt m_traced r_lane r_many r_item r_market r_of r_newMarket r_newStart r_newOf r_newCoin r_state r_kept r_tape r_brings r_seen r_seenOut r_trace ++ R) H → va_D A (mdW Y cI 0 0 m_isThere m_kinds m_newKinds m_print m_low m_high m_lot m_taped m_latest m_length m_cursor m_token m_from m_till m_fault m_faultAt m_traced r_lane r_many r_item r_market r_of r_newMarket r_newStart r_newOf r_newCoin r_state r_kept r_tape r_brings r_seen r_seenOut r_trace ++ R) → va_S A s.heap H locs → lv_has ls 11 [(10, .int x10_196), (9, .int x9_196), (8, .int y_18), (7, .int y_14), (6, .int x6_130), (5, .int x5_130), (4, .int x_11), (0, .ref (Y 0)), (3, .int nn)] → (∀ (u : Int32 × Int32) (H : Heap) (locs : List Loc) (ls : Array Slot), u = lX11_shown_196 nn r_item x_11 y_14 y_18 n x10_196 x9_196 → va_P D vwCl (mdW Y cI 0 0 m_isThere m_kinds m_newKinds m_print m_low m_high m_lot m_taped m_latest m_length m_cursor m_token m_from m_till m_fault m_faultAt m_traced r_lane r_many r_item r_market r_of r_newMarket r_newStart r_newOf r_newCoin r_state r_kept r_tape r_brings r_seen r_seenOut r_trace ++ R) H → va_D A (mdW Y cI 0 0 m_isThere m_kinds m_newKinds m_print m_low m_high m_lot m_taped m_latest m_length m_cursor m_token m_from m_till m_fault m_faultAt m_traced r_lane r_many r_item r_market r_of r_newMarket r_newStart r_newOf r_newCoin r_state r_kept r_tape r_brings r_seen r_seenOut r_trace ++ R) → va_S A s.heap H locs → lv_has ls 11 [(9, .int u.2), (6, .int x6_130), (5, .int x5_130), (4, .int x_11), (0, .ref (Y 0)), (3, .int nn)] → W p l e (rmX 3) s m ([.ref (Y 0), .int k, .int i, .int nn] : List Value).toArray below meth c H locs 0 0 Qm (F0 m 269 ls [])) → W p l e (rmX 3) s m ([.ref (Y 0), .int k, .int i, .int nn] : List Value).toArray below meth c H locs 0 0 Qm (F0 m 196 ls []) := by
                              intro n
                              induction n with
                              | zero =>
                                intro x10_196 x9_196 H locs ls iv_196_0 iv_196_1 iv_196_2 iv_196_3 hP hD hS hl kont_196
                                exfalso; omega
                              | succ n ih_196 =>
                                intro x10_196 x9_196 H locs ls iv_196_0 iv_196_1 iv_196_2 iv_196_3 hP hD hS hl kont_196
                                refine lv_iload hx hb dX11_shown_196 (lv_at hl 0 rfl) ?_
                                refine lv_iload hx hb dX11_shown_198 (lv_at hl 6 rfl) ?_
                                refine lv_iconst (v := 4) hx hb dX11_shown_200 (by decide) ?_
                                refine lv_iload_n hx hb dX11_shown_201 rfl (lv_at hl 8 rfl) ?_
                                refine lv_imul hx hb dX11_shown_202 ?_
                                refine lv_iadd hx hb dX11_shown_203 ?_
                                refine lv_icmp_ge (tgt := 269) hx hb dX11_shown_204 (by decide) (fun c_20 => ?_) (fun c_20 => ?_)
                                · have d_20 := i_le (i_addv rfl (i_mulv (show (4 : Int32).toInt = 4 from by decide) rfl (by omega) (by omega)) (by omega) (by omega)) rfl c_20
                                  exact kont_196 (x10_196, x9_196) H locs ls (show lX11_shown_196 nn r_item x_11 y_14 y_18 (n + 1) x10_196 x9_196 = (x10_196, x9_196) from ((if_pos c_20).trans rfl)).symm  hP hD hS (lv_sub hl [1, 4, 5, 6, 7, 8] rfl)
                                · have d_20 := i_len (i_addv rfl (i_mulv (show (4 : Int32).toInt = 4 from by decide) rfl (by omega) (by omega)) (by omega) (by omega)) rfl c_20
                                  refine lv_iload hx hb dX11_shown_207 (lv_at hl 1 rfl) ?_
                                  have J_25 : ∀ (y_25 : Int32) (H : Heap) (locs : List Loc) (ls : Array Slot), y_25 = (if x9_196 = 0 then (0) else (lt (sX11_guessBy y_14 y_18 (r_item x10_196.toNatClampNeg) (r_item (x10_196 + 1).toNatClampNeg) (r_item (x10_196 + 2).toNatClampNeg)) (fun u_30 : Int32 => if u_30 = (r_item (x10_196 + 3).toNatClampNeg) then (1) else (0)))) → va_P D vwCl (mdW Y cI 0 0 m_isThere m_kinds m_newKinds m_print m_low m_high m_lot m_taped m_latest m_length m_cursor m_token m_from m_till m_fault m_faultAt m_traced r_lane r_many r_item r_market r_of r_newMarket r_newStart r_newOf r_newCoin r_state r_kept r_tape r_brings r_seen r_seenOut r_trace ++ R) H → va_D A (mdW Y cI 0 0 m_isThere m_kinds m_newKinds m_print m_low m_high m_lot m_taped m_latest m_length m_cursor m_token m_from m_till m_fault m_faultAt m_traced r_lane r_many r_item r_market r_of r_newMarket r_newStart r_newOf r_newCoin r_state r_kept r_tape r_brings r_seen r_seenOut r_trace ++ R) → va_S A s.heap H locs → lv_has ls 11 [(10, .int x10_196), (8, .int y_18), (7, .int y_14), (6, .int x6_130), (5, .int x5_130), (4, .int x_11), (0, .ref (Y 0)), (3, .int nn)] → W p l e (rmX 3) s m ([.ref (Y 0), .int k, .int i, .int nn] : List Value).toArray below meth c H locs 0 0 Qm (F0 m 261 ls [.int y_25]) := by
                                    intro y_25 H locs ls ey_25 hP hD hS hl
                                    refine lv_istore (lv' := [(9, .int y_25), (10, .int x10_196), (8, .int y_18), (7, .int y_14), (6, .int x6_130), (5, .int x5_130), (4, .int x_11), (0, .ref (Y 0)), (3, .int nn)]) hx hb dX11_shown_261 hl (by decide) rfl (fun ls hl => ?_)
                                    obtain ⟨x_33, ex_33⟩ : ∃ z : Int32, z = x10_196 + 4 := ⟨_, rfl⟩
                                    refine lv_iinc (v := x_33) (lv' := [(10, .int x_33), (9, .int y_25), (8, .int y_18), (7, .int y_14), (6, .int x6_130), (5, .int x5_130), (4, .int x_11), (0, .ref (Y 0)), (3, .int nn)]) hx hb dX11_shown_263 hl (k := 1) rfl (by rw [ex_33]; rfl) (by decide) rfl (fun ls hl => ?_)
                                    refine lv_goto (tgt := 196) hx hb dX11_shown_266 (by decide) ?_
                                    have tx_33 : x_33.toInt = x10_196.toInt + 4 := i_inc ex_33 (by decide) (by omega) (by omega)
                                    refine ih_196 x_33 y_25 H locs ls (by omega) (by omega) (by omega) (by omega) hP hD hS (lv_sub hl [0, 1, 2, 3, 4, 5, 6, 7, 8] rfl) (fun u H locs ls eu  hP hD hS hl => ?_)
                                    exact kont_196 u H locs ls (eu.trans (show lX11_shown_196 nn r_item x_11 y_14 y_18 (n + 1) x10_196 x9_196 = lX11_shown_196 nn r_item x_11 y_14 y_18 n x_33 y_25 from ((if_neg c_20).trans (lt_eq ey_25 (lt_eq ex_33 rfl)))).symm)  hP hD hS hl
                                  refine lv_if_eq (tgt := 260) hx hb dX11_shown_209 (by decide) (fun c_26 => ?_) (fun c_26 => ?_)
                                  · have d_26 := i_eq rfl (show (0 : Int32).toInt = 0 from by decide) c_26
                                    refine lv_iconst (v := 0) hx hb dX11_shown_260 (by decide) ?_
                                    exact J_25 0 H locs ls (Eq.symm ((if_pos c_26).trans rfl)) hP hD hS (lv_sub hl [0, 2, 3, 4, 5, 6, 7, 8] rfl)
                                  · have d_26 := i_eqn rfl (show (0 : Int32).toInt = 0 from by decide) c_26
                                    refine lv_iload hx hb dX11_shown_212 (lv_at hl 3 rfl) ?_
                                    refine lv_iload hx hb dX11_shown_214 (lv_at hl 2 rfl) ?_
                                    refine lv_aload_n hx hb dX11_shown_216 rfl (lv_at hl 7 rfl) ?_
                                    refine va_get (D := D) (ci := 9) (v := .ref (Y 4)) (C := RX11) (T := TX11) (N := 35) hx hb hts iX11 hown hK hP 0 rfl rfl 4 (by decide) k16 (fun _ h9 => h9) rfl dX11_shown_217 ?_
                                    refine lv_iload hx hb dX11_shown_220 (lv_at hl 0 rfl) ?_
                                    have q_27 : vp_in x10_196 480 := vp_in_iff.mpr ⟨by omega, by omega⟩
                                    refine va_iald hx hb hK hP 3 0 rfl rfl q_27 dX11_shown_222 ?_
                                    refine lv_aload_n hx hb dX11_shown_223 rfl (lv_at hl 7 rfl) ?_
                                    refine va_get (D := D) (ci := 9) (v := .ref (Y 4)) (C := RX11) (T := TX11) (N := 35) hx hb hts iX11 hown hK hP 0 rfl rfl 4 (by decide) k16 (fun _ h9 => h9) rfl dX11_shown_224 ?_
                                    refine lv_iload hx hb dX11_shown_227 (lv_at hl 0 rfl) ?_
                                    refine lv_iconst (v := 1) hx hb dX11_shown_229 (by decide) ?_
                                    refine lv_iadd hx hb dX11_shown_230 ?_
                                    have q_28 : vp_in (x10_196 + 1) 480 := vp_in_iff.mpr (by rw [show (x10_196 + 1).toInt = (x10_196.toInt + 1) from (i_addv rfl (show (1 : Int32).toInt = 1 from by decide) (by omega) (by omega))]; constructor <;> omega)
                                    refine va_iald hx hb hK hP 3 0 rfl rfl q_28 dX11_shown_231 ?_
                                    refine lv_aload_n hx hb dX11_shown_232 rfl (lv_at hl 7 rfl) ?_
                                    refine va_get (D := D) (ci := 9) (v := .ref (Y 4)) (C := RX11) (T := TX11) (N := 35) hx hb hts iX11 hown hK hP 0 rfl rfl 4 (by decide) k16 (fun _ h9 => h9) rfl dX11_shown_233 ?_
                                    refine lv_iload hx hb dX11_shown_236 (lv_at hl 0 rfl) ?_
                                    refine lv_iconst (v := 2) hx hb dX11_shown_238 (by decide) ?_
                                    refine lv_iadd hx hb dX11_shown_239 ?_
                                    have q_29 : vp_in (x10_196 + 2) 480 := vp_in_iff.mpr (by rw [show (x10_196 + 2).toInt = (x10_196.toInt + 2) from (i_addv rfl (show (2 : Int32).toInt = 2 from by decide) (by omega) (by omega))]; constructor <;> omega)
                                    refine va_iald hx hb hK hP 3 0 rfl rfl q_29 dX11_shown_240 ?_
                                    refine mx_callS (As := [.int y_14, .int y_18, .int (r_item x10_196.toNatClampNeg), .int (r_item (x10_196 + 1).toNatClampNeg), .int (r_item (x10_196 + 2).toNatClampNeg)]) (rest := []) ⟨hx, hb, hml, hown, hts⟩ (mtX11_guessBy l D cI cB cK cS (mdW Y cI 0 0 m_isThere m_kinds m_newKinds m_print m_low m_high m_lot m_taped m_latest m_length m_cursor m_token m_from m_till m_fault m_faultAt m_traced r_lane r_many r_item r_market r_of r_newMarket r_newStart r_newOf r_newCoin r_state r_kept r_tape r_brings r_seen r_seenOut r_trace ++ R) y_14 y_18 (r_item x10_196.toNatClampNeg) (r_item (x10_196 + 1).toNatClampNeg) (r_item (x10_196 + 2).toNatClampNeg)) (va_cwS 5 hts gX11_shown_X11_guessBy rfl rfl rfl (by decide +kernel) ⟨Nat.le_of_ble_eq_true rfl, Nat.le_of_ble_eq_true rfl⟩) pF0_ok trivial hK hP hD hS hA rfl hl.1 rfl (Nat.le_of_ble_eq_true rfl) dX11_shown_241 ⟨Nat.le_refl _, Nat.le_refl _⟩ (fun u_30 H locs eu_30 hP hD hS => ?_)
                                    refine W.eq (g2 := F0 m 244 ls [.int u_30]) rfl ?_
                                    have hP : va_P D vwCl (mdW Y cI 0 0 m_isThere m_kinds m_newKinds m_print m_low m_high m_lot m_taped m_latest m_length m_cursor m_token m_from m_till m_fault m_faultAt m_traced r_lane r_many r_item r_market r_of r_newMarket r_newStart r_newOf r_newCoin r_state r_kept r_tape r_brings r_seen r_seenOut r_trace ++ R) H := hP
                                    have hD : va_D A (mdW Y cI 0 0 m_isThere m_kinds m_newKinds m_print m_low m_high m_lot m_taped m_latest m_length m_cursor m_token m_from m_till m_fault m_faultAt m_traced r_lane r_many r_item r_market r_of r_newMarket r_newStart r_newOf r_newCoin r_state r_kept r_tape r_brings r_seen r_seenOut r_trace ++ R) := hD
                                    refine lv_aload_n hx hb dX11_shown_244 rfl (lv_at hl 7 rfl) ?_
                                    refine va_get (D := D) (ci := 9) (v := .ref (Y 4)) (C := RX11) (T := TX11) (N := 35) hx hb hts iX11 hown hK hP 0 rfl rfl 4 (by decide) k16 (fun _ h9 => h9) rfl dX11_shown_245 ?_
                                    refine lv_iload hx hb dX11_shown_248 (lv_at hl 0 rfl) ?_
                                    refine lv_iconst (v := 3) hx hb dX11_shown_250 (by decide) ?_
                                    refine lv_iadd hx hb dX11_shown_251 ?_
                                    have q_31 : vp_in (x10_196 + 3) 480 := vp_in_iff.mpr (by rw [show (x10_196 + 3).toInt = (x10_196.toInt + 3) from (i_addv rfl (show (3 : Int32).toInt = 3 from by decide) (by omega) (by omega))]; constructor <;> omega)
                                    refine va_iald hx hb hK hP 3 0 rfl rfl q_31 dX11_shown_252 ?_
                                    refine lv_icmp_ne (tgt := 260) hx hb dX11_shown_253 (by decide) (fun c_32 => ?_) (fun c_32 => ?_)
                                    · have d_32 := i_eqn rfl rfl c_32
                                      refine lv_iconst (v := 0) hx hb dX11_shown_260 (by decide) ?_
                                      exact J_25 0 H locs ls (Eq.symm ((if_neg c_26).trans (lt_eq eu_30 ((if_neg c_32).trans rfl)))) hP hD hS (lv_sub hl [0, 2, 3, 4, 5, 6, 7, 8] rfl)
                                    · have d_32 := i_eq rfl rfl c_32
                                      refine lv_iconst (v := 1) hx hb dX11_shown_256 (by decide) ?_
                                      refine lv_goto (tgt := 261) hx hb dX11_shown_257 (by decide) ?_
                                      exact J_25 1 H locs ls (Eq.symm ((if_neg c_26).trans (lt_eq eu_30 ((if_pos c_32).trans rfl)))) hP hD hS (lv_sub hl [0, 2, 3, 4, 5, 6, 7, 8] rfl)
                            refine L_196 17 x_11 1 H locs ls (by omega) (by omega) (by omega) (by omega) hP hD hS (lv_sub hl [0, 1, 2, 3, 4, 5, 6, 7, 8] rfl) (fun u_34 H locs ls eu_34  hP hD hS hl => ?_)
                            have hP : va_P D vwCl (mdW Y cI 0 0 m_isThere m_kinds m_newKinds m_print m_low m_high m_lot m_taped m_latest m_length m_cursor m_token m_from m_till m_fault m_faultAt m_traced r_lane r_many r_item r_market r_of r_newMarket r_newStart r_newOf r_newCoin r_state r_kept r_tape r_brings r_seen r_seenOut r_trace ++ R) H := hP
                            have hD : va_D A (mdW Y cI 0 0 m_isThere m_kinds m_newKinds m_print m_low m_high m_lot m_taped m_latest m_length m_cursor m_token m_from m_till m_fault m_faultAt m_traced r_lane r_many r_item r_market r_of r_newMarket r_newStart r_newOf r_newCoin r_state r_kept r_tape r_brings r_seen r_seenOut r_trace ++ R) := hD
                            refine lv_iload hx hb dX11_shown_269 (lv_at hl 2 rfl) ?_
                            refine lv_iload hx hb dX11_shown_271 (lv_at hl 0 rfl) ?_
                            have J_35 : ∀ (y_35 : Int32) (H : Heap) (locs : List Loc) (ls : Array Slot), y_35 = (if u_34.2 = 0 then (0) else (((1 : Int32) <<< (x6_130 &&& 31)))) → va_P D vwCl (mdW Y cI 0 0 m_isThere m_kinds m_newKinds m_print m_low m_high m_lot m_taped m_latest m_length m_cursor m_token m_from m_till m_fault m_faultAt m_traced r_lane r_many r_item r_market r_of r_newMarket r_newStart r_newOf r_newCoin r_state r_kept r_tape r_brings r_seen r_seenOut r_trace ++ R) H → va_D A (mdW Y cI 0 0 m_isThere m_kinds m_newKinds m_print m_low m_high m_lot m_taped m_latest m_length m_cursor m_token m_from m_till m_fault m_faultAt m_traced r_lane r_many r_item r_market r_of r_newMarket r_newStart r_newOf r_newCoin r_state r_kept r_tape r_brings r_seen r_seenOut r_trace ++ R) → va_S A s.heap H locs → lv_has ls 11 [(6, .int x6_130), (4, .int x_11), (0, .ref (Y 0)), (3, .int nn)] → W p l e (rmX 3) s m ([.ref (Y 0), .int k, .int i, .int nn] : List Value).toArray below meth c H locs 0 0 Qm (F0 m 284 ls [.int y_35, .int x5_130]) := by
                              intro y_35 H locs ls ey_35 hP hD hS hl
                              refine lv_ior hx hb dX11_shown_284 ?_
                              refine lv_topi (fun x_37 ex_37 => ?_)
                              refine lv_istore (lv' := [(5, .int x_37), (6, .int x6_130), (4, .int x_11), (0, .ref (Y 0)), (3, .int nn)]) hx hb dX11_shown_285 hl (by decide) rfl (fun ls hl => ?_)
                              obtain ⟨x_38, ex_38⟩ : ∃ z : Int32, z = x6_130 + 1 := ⟨_, rfl⟩
                              refine lv_iinc (v := x_38) (lv' := [(6, .int x_38), (5, .int x_37), (4, .int x_11), (0, .ref (Y 0)), (3, .int nn)]) hx hb dX11_shown_287 hl (k := 1) rfl (by rw [ex_38]; rfl) (by decide) rfl (fun ls hl => ?_)
                              refine lv_goto (tgt := 130) hx hb dX11_shown_290 (by decide) ?_
                              have tx_38 : x_38.toInt = x6_130.toInt + 1 := i_inc ex_38 (by decide) (by omega) (by omega)
                              refine ih_130 x_38 x_37 H locs ls (by omega) (by omega) (by omega) hP hD hS (lv_sub hl [0, 1, 2, 3, 4] rfl) (fun u H locs ls eu  hP hD hS hl => ?_)
                              exact kont_130 u H locs ls (eu.trans (show lX11_shown_130 nn r_item x_11 (n + 1) x6_130 x5_130 = lX11_shown_130 nn r_item x_11 n x_38 x_37 from ((if_neg c_13).trans (lt_eq ey_14 (lt_eq ey_18 (lt_eq eu_34 (lt_eq ey_35 (lt_eq ex_37 (lt_eq ex_38 rfl)))))))).symm)  hP hD hS hl
                            refine lv_if_eq (tgt := 283) hx hb dX11_shown_273 (by decide) (fun c_36 => ?_) (fun c_36 => ?_)
                            · have d_36 := i_eq rfl (show (0 : Int32).toInt = 0 from by decide) c_36
                              refine lv_iconst (v := 0) hx hb dX11_shown_283 (by decide) ?_
                              exact J_35 0 H locs ls (Eq.symm ((if_pos c_36).trans rfl)) hP hD hS (lv_sub hl [1, 3, 4, 5] rfl)
                            · have d_36 := i_eqn rfl (show (0 : Int32).toInt = 0 from by decide) c_36
                              refine lv_iconst (v := 1) hx hb dX11_shown_276 (by decide) ?_
                              refine lv_iload hx hb dX11_shown_277 (lv_at hl 1 rfl) ?_
                              refine lv_ishl hx hb dX11_shown_279 ?_
                              refine lv_goto (tgt := 284) hx hb dX11_shown_280 (by decide) ?_
                              exact J_35 ((1 : Int32) <<< (x6_130 &&& 31)) H locs ls (Eq.symm ((if_neg c_36).trans rfl)) hP hD hS (lv_sub hl [1, 3, 4, 5] rfl)
                          refine lv_icmp_ge (tgt := 183) hx hb dX11_shown_173 (by decide) (fun c_19 => ?_) (fun c_19 => ?_)
                          · have d_19 := i_le (show (3 : Int32).toInt = 3 from by decide) rfl c_19
                            refine lv_iload hx hb dX11_shown_183 (lv_at hl 1 rfl) ?_
                            refine lv_iconst (v := 2) hx hb dX11_shown_185 (by decide) ?_
                            refine lv_isub hx hb dX11_shown_186 ?_
                            exact J_18 (x6_130 - 2) H locs ls (Eq.symm ((if_pos c_19).trans rfl)) hP hD hS (lv_sub hl [0, 1, 2, 3, 4, 5] rfl)
                          · have d_19 := i_len (show (3 : Int32).toInt = 3 from by decide) rfl c_19
                            refine lv_iload hx hb dX11_shown_176 (lv_at hl 1 rfl) ?_
                            refine lv_iconst (v := 1) hx hb dX11_shown_178 (by decide) ?_
                            refine lv_iadd hx hb dX11_shown_179 ?_
                            refine lv_goto (tgt := 187) hx hb dX11_shown_180 (by decide) ?_
                            exact J_18 (x6_130 + 1) H locs ls (Eq.symm ((if_neg c_19).trans rfl)) hP hD hS (lv_sub hl [0, 1, 2, 3, 4, 5] rfl)
                        refine lv_if_ne (tgt := 146) hx hb dX11_shown_139 (by decide) (fun c_15 => ?_) (fun c_15 => ?_)
                        · have d_15 := i_eqn rfl (show (0 : Int32).toInt = 0 from by decide) c_15
                          refine lv_iload hx hb dX11_shown_146 (lv_at hl 0 rfl) ?_
                          refine lv_iconst (v := 3) hx hb dX11_shown_148 (by decide) ?_
                          refine lv_icmp_ge (tgt := 156) hx hb dX11_shown_149 (by decide) (fun c_16 => ?_) (fun c_16 => ?_)
                          · have d_16 := i_le (show (3 : Int32).toInt = 3 from by decide) rfl c_16
                            refine lv_iload hx hb dX11_shown_156 (lv_at hl 0 rfl) ?_
                            refine lv_bipush (v := 12) hx hb dX11_shown_158 (by decide) ?_
                            refine lv_icmp_ge (tgt := 167) hx hb dX11_shown_160 (by decide) (fun c_17 => ?_) (fun c_17 => ?_)
                            · have d_17 := i_le (show (12 : Int32).toInt = 12 from by decide) rfl c_17
                              refine lv_iconst (v := 4) hx hb dX11_shown_167 (by decide) ?_
                              exact J_14 4 H locs ls (Eq.symm ((if_neg c_15).trans ((if_pos c_16).trans ((if_pos c_17).trans rfl)))) hP hD hS (lv_sub hl [0, 1, 2, 3, 4] rfl)
                            · have d_17 := i_len (show (12 : Int32).toInt = 12 from by decide) rfl c_17
                              refine lv_iconst (v := 3) hx hb dX11_shown_163 (by decide) ?_
                              refine lv_goto (tgt := 168) hx hb dX11_shown_164 (by decide) ?_
                              exact J_14 3 H locs ls (Eq.symm ((if_neg c_15).trans ((if_pos c_16).trans ((if_neg c_17).trans rfl)))) hP hD hS (lv_sub hl [0, 1, 2, 3, 4] rfl)
                          · have d_16 := i_len (show (3 : Int32).toInt = 3 from by decide) rfl c_16
                            refine lv_iconst (v := 2) hx hb dX11_shown_152 (by decide) ?_
                            refine lv_goto (tgt := 168) hx hb dX11_shown_153 (by decide) ?_
                            exact J_14 2 H locs ls (Eq.symm ((if_neg c_15).trans ((if_neg c_16).trans rfl))) hP hD hS (lv_sub hl [0, 1, 2, 3, 4] rfl)
                        · have d_15 := i_eq rfl (show (0 : Int32).toInt = 0 from by decide) c_15
                          refine lv_iconst (v := 1) hx hb dX11_shown_142 (by decide) ?_
                          refine lv_goto (tgt := 168) hx hb dX11_shown_143 (by decide) ?_
                          exact J_14 1 H locs ls (Eq.symm ((if_pos c_15).trans rfl)) hP hD hS (lv_sub hl [0, 1, 2, 3, 4] rfl)
                  refine L_130 14 0 0 H locs ls (by decide) (by decide) (by decide) hP hD hS (lv_sub hl [0, 1, 2, 3, 4] rfl) (fun u_39 H locs ls eu_39  hP hD hS hl => ?_)
                  have hP : va_P D vwCl (mdW Y cI 0 0 m_isThere m_kinds m_newKinds m_print m_low m_high m_lot m_taped m_latest m_length m_cursor m_token m_from m_till m_fault m_faultAt m_traced r_lane r_many r_item r_market r_of r_newMarket r_newStart r_newOf r_newCoin r_state r_kept r_tape r_brings r_seen r_seenOut r_trace ++ R) H := hP
                  have hD : va_D A (mdW Y cI 0 0 m_isThere m_kinds m_newKinds m_print m_low m_high m_lot m_taped m_latest m_length m_cursor m_token m_from m_till m_fault m_faultAt m_traced r_lane r_many r_item r_market r_of r_newMarket r_newStart r_newOf r_newCoin r_state r_kept r_tape r_brings r_seen r_seenOut r_trace ++ R) := hD
                  refine lv_iload hx hb dX11_shown_293 (lv_at hl 0 rfl) ?_
                  rw [hQm]
                  exact mx_iret (u0 := sX11_shown k i nn m_status r_lane r_many r_item) (rv := (fun u => some (.int u.1))) (w1 := (fun u => mdW Y cI u.2.1 u.2.2 m_isThere m_kinds m_newKinds m_print m_low m_high m_lot m_taped m_latest m_length m_cursor m_token m_from m_till m_fault m_faultAt m_traced r_lane r_many r_item r_market r_of r_newMarket r_newStart r_newOf r_newCoin r_state r_kept r_tape r_brings r_seen r_seenOut r_trace ++ R)) (u := (u_39.2, 0, 0)) hx hb hr hlocks hK hS (hT_81.trans ((if_pos c_12).trans (lt_eq eu_39 rfl))) hP hD rfl dX11_shown_295
                · have d_12 := i_len (i_mulv (show (4 : Int32).toInt = 4 from by decide) rfl (by omega) (by omega)) rfl c_12
                  refine lv_aload_n hx hb dX11_shown_89 rfl (lv_at hl 2 rfl) ?_
                  refine va_get (D := D) (ci := 9) (v := .ref (Y 4)) (C := RX11) (T := TX11) (N := 35) hx hb hts iX11 hown hK hP 0 rfl rfl 4 (by decide) k16 (fun _ h9 => h9) rfl dX11_shown_90 ?_
                  refine lv_iload hx hb dX11_shown_93 (lv_at hl 1 rfl) ?_
                  refine lv_iload hx hb dX11_shown_95 (lv_at hl 0 rfl) ?_
                  refine lv_iadd hx hb dX11_shown_97 ?_
                  have q_40 : vp_in (x_11 + x5_81) 480 := vp_in_iff.mpr (by rw [show (x_11 + x5_81).toInt = (x_11.toInt + x5_81.toInt) from (i_addv rfl rfl (by omega) (by omega))]; constructor <;> omega)
                  refine va_iald hx hb hK hP 3 0 rfl rfl q_40 dX11_shown_98 ?_
                  refine lv_i2l (v := (r_item (x_11 + x5_81).toNatClampNeg).toInt64) hx hb dX11_shown_99 rfl ?_
                  refine lv_lconst (v := 0) hx hb dX11_shown_100 (by decide) ?_
                  refine lv_ldc2 (v := 99) hx hb hown k229 dX11_shown_101 ?_
                  refine mx_callS (As := [.long ((r_item (x_11 + x5_81).toNatClampNeg).toInt64), .long 0, .long 99]) (rest := []) ⟨hx, hb, hml, hown, hts⟩ (mtX11_in l D cI cB cK cS (mdW Y cI 0 m_status m_isThere m_kinds m_newKinds m_print m_low m_high m_lot m_taped m_latest m_length m_cursor m_token m_from m_till m_fault m_faultAt m_traced r_lane r_many r_item r_market r_of r_newMarket r_newStart r_newOf r_newCoin r_state r_kept r_tape r_brings r_seen r_seenOut r_trace ++ R) ((r_item (x_11 + x5_81).toNatClampNeg).toInt64) 0 99) (va_cwS 3 hts gX11_shown_X11_in rfl rfl rfl (by decide +kernel) ⟨Nat.le_of_ble_eq_true rfl, Nat.le_of_ble_eq_true rfl⟩) pF0_ok trivial hK hP hD hS hA rfl hl.1 rfl (Nat.le_of_ble_eq_true rfl) dX11_shown_104 ⟨Nat.le_refl _, Nat.le_refl _⟩ (fun u_41 H locs eu_41 hP hD hS => ?_)
                  refine W.eq (g2 := F0 m 107 ls [.int u_41]) rfl ?_
                  have hP : va_P D vwCl (mdW Y cI 0 m_status m_isThere m_kinds m_newKinds m_print m_low m_high m_lot m_taped m_latest m_length m_cursor m_token m_from m_till m_fault m_faultAt m_traced r_lane r_many r_item r_market r_of r_newMarket r_newStart r_newOf r_newCoin r_state r_kept r_tape r_brings r_seen r_seenOut r_trace ++ R) H := hP
                  have hD : va_D A (mdW Y cI 0 m_status m_isThere m_kinds m_newKinds m_print m_low m_high m_lot m_taped m_latest m_length m_cursor m_token m_from m_till m_fault m_faultAt m_traced r_lane r_many r_item r_market r_of r_newMarket r_newStart r_newOf r_newCoin r_state r_kept r_tape r_brings r_seen r_seenOut r_trace ++ R) := hD
                  refine lv_if_ne (tgt := 113) hx hb dX11_shown_107 (by decide) (fun c_42 => ?_) (fun c_42 => ?_)
                  · have d_42 := i_eqn rfl (show (0 : Int32).toInt = 0 from by decide) c_42
                    have dt_42 := sX11_in_t ((Int32.toInt_toInt64 _).trans rfl) (show (0 : Int64).toInt = 0 from by decide) (show (99 : Int64).toInt = 99 from by decide) eu_41 c_42
                    obtain ⟨x_43, ex_43⟩ : ∃ z : Int32, z = x5_81 + 1 := ⟨_, rfl⟩
                    refine lv_iinc (v := x_43) (lv' := [(5, .int x_43), (4, .int x_11), (0, .ref (Y 0)), (3, .int nn)]) hx hb dX11_shown_113 hl (k := 0) rfl (by rw [ex_43]; rfl) (by decide) rfl (fun ls hl => ?_)
                    refine lv_goto (tgt := 81) hx hb dX11_shown_116 (by decide) ?_
                    have tx_43 : x_43.toInt = x5_81.toInt + 1 := i_inc ex_43 (by decide) (by omega) (by omega)
                    exact ih_81 x_43 H locs ls (by omega) (by omega) (by omega) (hT_81.trans ((if_neg c_12).trans (lt_eq eu_41 ((if_neg c_42).trans (lt_eq ex_43 rfl))))) hP hD hS (lv_sub hl [0, 1, 2, 3] rfl)
                  · have d_42 := i_eq rfl (show (0 : Int32).toInt = 0 from by decide) c_42
                    refine lv_ldc (v := (-1000001)) hx hb hown k78 dX11_shown_110 ?_
                    rw [hQm]
                    exact mx_iret (u0 := sX11_shown k i nn m_status r_lane r_many r_item) (rv := (fun u => some (.int u.1))) (w1 := (fun u => mdW Y cI u.2.1 u.2.2 m_isThere m_kinds m_newKinds m_print m_low m_high m_lot m_taped m_latest m_length m_cursor m_token m_from m_till m_fault m_faultAt m_traced r_lane r_many r_item r_market r_of r_newMarket r_newStart r_newOf r_newCoin r_state r_kept r_tape r_brings r_seen r_seenOut r_trace ++ R)) (u := ((-1000001), 0, m_status)) hx hb hr hlocks hK hS (hT_81.trans ((if_neg c_12).trans (lt_eq eu_41 ((if_pos c_42).trans rfl)))) hP hD rfl dX11_shown_112
            exact L_81 61 0 H locs ls (by decide) (by decide) (by decide) (lt_eq eu_1 ((if_neg c_2).trans (lt_eq eu_3 ((if_neg c_4).trans ((if_pos c_6).trans ((if_neg c_7).trans ((if_pos c_10).trans (lt_eq ex_11 rfl)))))))) hP hD hS (lv_sub hl [0, 1, 2, 5] rfl)
          · have d_10 := i_len rfl (show (0 : Int32).toInt = 0 from by decide) c_10
            refine lv_aload_n hx hb dX11_shown_64 rfl (lv_at hl 0 rfl) ?_
            refine lv_iconst (v := 2) hx hb dX11_shown_65 (by decide) ?_
            refine mx_callV (As := [.int 2]) (rest := []) ⟨hx, hb, hml, hown, hts⟩ (mtX11_finding l D cI cB cK cS Y R 0 m_status m_isThere m_kinds m_newKinds m_print m_low m_high m_lot m_taped m_latest m_length m_cursor m_token m_from m_till m_fault m_faultAt m_traced r_lane r_many r_item r_market r_of r_newMarket r_newStart r_newOf r_newCoin r_state r_kept r_tape r_brings r_seen r_seenOut r_trace 2) (cwV 1 hts gX11_shown_X11_finding rfl rfl rfl (by decide +kernel) ⟨Nat.le_of_ble_eq_true rfl, Nat.le_of_ble_eq_true rfl⟩) pF0_ok trivial hK hP hD hS hA 0 rfl rfl rfl rfl hl.1 rfl (Nat.le_of_ble_eq_true rfl) dX11_shown_66 ⟨Nat.le_refl _, Nat.le_refl _⟩ (fun u_44 H locs eu_44 hP hD hS => ?_)
            refine W.eq (g2 := F0 m 69 ls [.int u_44.1]) rfl ?_
            have hP : va_P D vwCl (mdW Y cI 0 u_44.2 m_isThere m_kinds m_newKinds m_print m_low m_high m_lot m_taped m_latest m_length m_cursor m_token m_from m_till m_fault m_faultAt m_traced r_lane r_many r_item r_market r_of r_newMarket r_newStart r_newOf r_newCoin r_state r_kept r_tape r_brings r_seen r_seenOut r_trace ++ R) H := hP
            have hD : va_D A (mdW Y cI 0 u_44.2 m_isThere m_kinds m_newKinds m_print m_low m_high m_lot m_taped m_latest m_length m_cursor m_token m_from m_till m_fault m_faultAt m_traced r_lane r_many r_item r_market r_of r_newMarket r_newStart r_newOf r_newCoin r_state r_kept r_tape r_brings r_seen r_seenOut r_trace ++ R) := hD
            rw [hQm]
            exact mx_iret (u0 := sX11_shown k i nn m_status r_lane r_many r_item) (rv := (fun u => some (.int u.1))) (w1 := (fun u => mdW Y cI u.2.1 u.2.2 m_isThere m_kinds m_newKinds m_print m_low m_high m_lot m_taped m_latest m_length m_cursor m_token m_from m_till m_fault m_faultAt m_traced r_lane r_many r_item r_market r_of r_newMarket r_newStart r_newOf r_newCoin r_state r_kept r_tape r_brings r_seen r_seenOut r_trace ++ R)) (u := (u_44.1, 0, u_44.2)) hx hb hr hlocks hK hS (lt_eq eu_1 ((if_neg c_2).trans (lt_eq eu_3 ((if_neg c_4).trans ((if_pos c_6).trans ((if_neg c_7).trans ((if_neg c_10).trans (lt_eq eu_44 rfl)))))))) hP hD rfl dX11_shown_69
      · have d_6 := i_len (show (0 : Int32).toInt = 0 from by decide) rfl c_6
        refine lv_aload_n hx hb dX11_shown_36 rfl (lv_at hl 0 rfl) ?_
        refine lv_iconst (v := 1) hx hb dX11_shown_37 (by decide) ?_
        refine mx_callV (As := [.int 1]) (rest := []) ⟨hx, hb, hml, hown, hts⟩ (mtX11_finding l D cI cB cK cS Y R 0 m_status m_isThere m_kinds m_newKinds m_print m_low m_high m_lot m_taped m_latest m_length m_cursor m_token m_from m_till m_fault m_faultAt m_traced r_lane r_many r_item r_market r_of r_newMarket r_newStart r_newOf r_newCoin r_state r_kept r_tape r_brings r_seen r_seenOut r_trace 1) (cwV 1 hts gX11_shown_X11_finding rfl rfl rfl (by decide +kernel) ⟨Nat.le_of_ble_eq_true rfl, Nat.le_of_ble_eq_true rfl⟩) pF0_ok trivial hK hP hD hS hA 0 rfl rfl rfl rfl hl.1 rfl (Nat.le_of_ble_eq_true rfl) dX11_shown_38 ⟨Nat.le_refl _, Nat.le_refl _⟩ (fun u_45 H locs eu_45 hP hD hS => ?_)
        refine W.eq (g2 := F0 m 41 ls [.int u_45.1]) rfl ?_
        have hP : va_P D vwCl (mdW Y cI 0 u_45.2 m_isThere m_kinds m_newKinds m_print m_low m_high m_lot m_taped m_latest m_length m_cursor m_token m_from m_till m_fault m_faultAt m_traced r_lane r_many r_item r_market r_of r_newMarket r_newStart r_newOf r_newCoin r_state r_kept r_tape r_brings r_seen r_seenOut r_trace ++ R) H := hP
        have hD : va_D A (mdW Y cI 0 u_45.2 m_isThere m_kinds m_newKinds m_print m_low m_high m_lot m_taped m_latest m_length m_cursor m_token m_from m_till m_fault m_faultAt m_traced r_lane r_many r_item r_market r_of r_newMarket r_newStart r_newOf r_newCoin r_state r_kept r_tape r_brings r_seen r_seenOut r_trace ++ R) := hD
        rw [hQm]
        exact mx_iret (u0 := sX11_shown k i nn m_status r_lane r_many r_item) (rv := (fun u => some (.int u.1))) (w1 := (fun u => mdW Y cI u.2.1 u.2.2 m_isThere m_kinds m_newKinds m_print m_low m_high m_lot m_taped m_latest m_length m_cursor m_token m_from m_till m_fault m_faultAt m_traced r_lane r_many r_item r_market r_of r_newMarket r_newStart r_newOf r_newCoin r_state r_kept r_tape r_brings r_seen r_seenOut r_trace ++ R)) (u := (u_45.1, 0, u_45.2)) hx hb hr hlocks hK hS (lt_eq eu_1 ((if_neg c_2).trans (lt_eq eu_3 ((if_neg c_4).trans ((if_neg c_6).trans (lt_eq eu_45 rfl)))))) hP hD rfl dX11_shown_41
    · have d_4 := i_eq rfl (show (0 : Int32).toInt = 0 from by decide) c_4
      refine lv_ldc (v := (-1000001)) hx hb hown k78 dX11_shown_24 ?_
      rw [hQm]
      exact mx_iret (u0 := sX11_shown k i nn m_status r_lane r_many r_item) (rv := (fun u => some (.int u.1))) (w1 := (fun u => mdW Y cI u.2.1 u.2.2 m_isThere m_kinds m_newKinds m_print m_low m_high m_lot m_taped m_latest m_length m_cursor m_token m_from m_till m_fault m_faultAt m_traced r_lane r_many r_item r_market r_of r_newMarket r_newStart r_newOf r_newCoin r_state r_kept r_tape r_brings r_seen r_seenOut r_trace ++ R)) (u := ((-1000001), 0, m_status)) hx hb hr hlocks hK hS (lt_eq eu_1 ((if_neg c_2).trans (lt_eq eu_3 ((if_pos c_4).trans rfl)))) hP hD rfl dX11_shown_26
