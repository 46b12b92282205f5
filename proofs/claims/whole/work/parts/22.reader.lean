def lX4_nameIs_28 (iw : Nat) (p_len : Int32) (p_bytes : Nat → Int32) (d_start : Int32) : Nat → Int32 → Int32
  | 0, x2_28 => (0)
  | n + 1, x2_28 => lt (sJ0_length_8abf5 iw) (fun u_4 : Int32 => if u_4 ≤ x2_28 then ((1)) else (lt (sX7_byteAt (d_start + x2_28) p_len p_bytes) (fun u_6 : Int32 => lt (sJ0_charAt_5068e iw x2_28) (fun u_7 : Int32 => if u_6 = u_7 then (lt (x2_28 + 1) (fun x_9 : Int32 => lX4_nameIs_28 iw p_len p_bytes d_start n x_9)) else ((0))))))

def sX4_nameIs (iw : Nat) (p_len : Int32) (p_bytes : Nat → Int32) (d_place : Int32) (d_token : Int32) (d_start : Int32) : Int32 := if d_token = 1 then (lt (sJ0_length_8abf5 iw) (fun u_2 : Int32 => if (d_place - d_start) = u_2 then (lX4_nameIs_28 iw p_len p_bytes d_start 9 0) else ((0)))) else ((0))
set_option maxHeartbeats 4000000 in
set_option maxRecDepth 100000 in
theorem mtX4_nameIs (l : Launch) (D : va_G) (cI cB cK cS : ClassId) (t ks kb : Nat → Nat) (U Q : Nat → Nat) (R : va_W) (iw : Nat) (p_len : Int32) (p_bytes : Nat → Int32) (d_place : Int32) (d_token : Int32) (d_value : Int32) (d_start : Int32) (d_fault : Int32) (d_num : Nat → Int32) (hi_iw : iw < 9) : MX l yX4_nameIs wsX4_nameIs (rmX 5) D (tyX cI cB cK cS) (pFs t ks kb) (tpW U cB p_len p_bytes ++ (rdW Q U cI d_place d_token d_value d_start d_fault d_num ++ R)) [.ref (Q 0), .ref (ks iw)] (sX4_nameIs iw p_len p_bytes d_place d_token d_start) (fun u => some (.int u)) (fun _ => tpW U cB p_len p_bytes ++ (rdW Q U cI d_place d_token d_value d_start d_fault d_num ++ R)) := by
  refine mx_intro (cc := cX4_nameIs) (maxL := 3) (ret := (some .boolean)) (by decide) rfl (Nat.le_of_ble_eq_true rfl) ?_
  intro p e s m below meth c A ls H locs Qm hQm hx hb hr hml hts hown hlocks hA hS hP hK hD hF hl
  have hown : s.vm.findClass RX4 = some m.cls := hown
  have hl : lv_has ls 3 [(0, .ref (Q 0)), (1, .ref (ks iw))] := hl
  have k19 := hts (.fieldLink RX4 19 "PigRounds$Reader" "token" "I") (by decide +kernel)
  have k15 := hts (.fieldLink RX4 15 "PigRounds$Reader" "place" "I") (by decide +kernel)
  have k25 := hts (.fieldLink RX4 25 "PigRounds$Reader" "start" "I") (by decide +kernel)
  have k31 := hts (.fieldLink RX4 31 "PigRounds$Reader" "tape" "LPigRounds$Tape;") (by decide +kernel)
  have iX4 : ∀ w ∈ u_ws RX4 TX4 7, w ∈ wsX4_nameIs := by decide +kernel
  refine lv_aload_n hx hb dX4_nameIs_0 rfl (lv_at hl 0 rfl) ?_
  refine va_get (D := D) (ci := 4) (v := .int d_token) (C := RX4) (T := TX4) (N := 7) hx hb hts iX4 hown hK hP 2 rfl rfl 3 (by decide) k19 (fun _ h9 => h9) rfl dX4_nameIs_1 ?_
  refine lv_iconst (v := 1) hx hb dX4_nameIs_4 (by decide) ?_
  refine lv_icmp_ne (tgt := 24) hx hb dX4_nameIs_5 (by decide) (fun c_1 => ?_) (fun c_1 => ?_)
  · have d_1 := i_eqn rfl (show (1 : Int32).toInt = 1 from by decide) c_1
    refine lv_iconst (v := 0) hx hb dX4_nameIs_24 (by decide) ?_
    rw [hQm]
    exact mx_zret (u0 := sX4_nameIs iw p_len p_bytes d_place d_token d_start) (rv := (fun u => some (.int u))) (w1 := (fun _ => tpW U cB p_len p_bytes ++ (rdW Q U cI d_place d_token d_value d_start d_fault d_num ++ R))) (u := (0)) hx hb hr hlocks hK hS ((if_neg c_1).trans rfl) hP hD rfl rfl dX4_nameIs_25
  · have d_1 := i_eq rfl (show (1 : Int32).toInt = 1 from by decide) c_1
    refine lv_aload_n hx hb dX4_nameIs_8 rfl (lv_at hl 0 rfl) ?_
    refine va_get (D := D) (ci := 4) (v := .int d_place) (C := RX4) (T := TX4) (N := 7) hx hb hts iX4 hown hK hP 2 rfl rfl 2 (by decide) k15 (fun _ h9 => h9) rfl dX4_nameIs_9 ?_
    refine lv_aload_n hx hb dX4_nameIs_12 rfl (lv_at hl 0 rfl) ?_
    refine va_get (D := D) (ci := 4) (v := .int d_start) (C := RX4) (T := TX4) (N := 7) hx hb hts iX4 hown hK hP 2 rfl rfl 5 (by decide) k25 (fun _ h9 => h9) rfl dX4_nameIs_13 ?_
    refine lv_isub hx hb dX4_nameIs_16 ?_
    refine lv_aload_n hx hb dX4_nameIs_17 rfl (lv_at hl 1 rfl) ?_
    refine mx_callK (As := []) (rest := [.int (d_place - d_start)]) ⟨hx, hb, hml, hown, hts⟩ (mtJ0_length_8abf5 l D cI cB cK cS (tpW U cB p_len p_bytes ++ (rdW Q U cI d_place d_token d_value d_start d_fault d_num ++ R)) t ks kb iw hi_iw) (cwV 0 hts gX4_nameIs_J0_length_8abf5 rfl rfl rfl (by decide +kernel) ⟨Nat.le_of_ble_eq_true rfl, Nat.le_of_ble_eq_true rfl⟩) pFs_ok hF hK hP hD hS hA (vk_recv hF.2.2.2.1 hi_iw hS) rfl hl.1 rfl (Nat.le_of_ble_eq_true rfl) dX4_nameIs_18 ⟨Nat.le_refl _, Nat.le_refl _⟩ (fun u_2 H locs eu_2 hP hD hS => ?_)
    refine W.eq (g2 := F0 m 21 ls [.int u_2, .int (d_place - d_start)]) rfl ?_
    have hw_u_2 := wd_le hi_iw eu_2
    refine lv_icmp_eq (tgt := 26) hx hb dX4_nameIs_21 (by decide) (fun c_3 => ?_) (fun c_3 => ?_)
    · have d_3 := i_eq rfl rfl c_3
      refine lv_iconst (v := 0) hx hb dX4_nameIs_26 (by decide) ?_
      refine lv_istore_n (lv' := [(2, .int 0), (0, .ref (Q 0)), (1, .ref (ks iw))]) hx hb dX4_nameIs_27 rfl hl (by decide) rfl (fun ls hl => ?_)
      have L_28 : ∀ (n : Nat) (x2_28 : Int32) (H : Heap) (locs : List Loc) (ls : Array Slot), 0 ≤ x2_28.toInt → x2_28.toInt ≤ 8 → (8 : Int) < x2_28.toInt + ((n : Nat) : Int) → (sX4_nameIs iw p_len p_bytes d_place d_token d_start = lX4_nameIs_28 iw p_len p_bytes d_start n x2_28) → va_P D vwCl (tpW U cB p_len p_bytes ++ (rdW Q U cI d_place d_token d_value d_start d_fault d_num ++ R)) H → va_D A (tpW U cB p_len p_bytes ++ (rdW Q U cI d_place d_token d_value d_start d_fault d_num ++ R)) → va_S A s.heap H locs → lv_has ls 3 [(2, .int x2_28), (0, .ref (Q 0)), (1, .ref (ks iw))] → W p l e (rmX 5) s m ([.ref (Q 0), .ref (ks iw)] : List Value).toArray below meth c H locs 0 0 Qm (F0 m 28 ls []) := by
        intro n
        induction n with
        | zero =>
          intro x2_28 H locs ls iv_28_0 iv_28_1 iv_28_2 hT_28 hP hD hS hl
          exfalso; omega
        | succ n ih_28 =>
          intro x2_28 H locs ls iv_28_0 iv_28_1 iv_28_2 hT_28 hP hD hS hl
          refine lv_iload_n hx hb dX4_nameIs_28 rfl (lv_at hl 0 rfl) ?_
          refine lv_aload_n hx hb dX4_nameIs_29 rfl (lv_at hl 2 rfl) ?_
          refine mx_callK (As := []) (rest := [.int x2_28]) ⟨hx, hb, hml, hown, hts⟩ (mtJ0_length_8abf5 l D cI cB cK cS (tpW U cB p_len p_bytes ++ (rdW Q U cI d_place d_token d_value d_start d_fault d_num ++ R)) t ks kb iw hi_iw) (cwV 0 hts gX4_nameIs_J0_length_8abf5 rfl rfl rfl (by decide +kernel) ⟨Nat.le_of_ble_eq_true rfl, Nat.le_of_ble_eq_true rfl⟩) pFs_ok hF hK hP hD hS hA (vk_recv hF.2.2.2.1 hi_iw hS) rfl hl.1 rfl (Nat.le_of_ble_eq_true rfl) dX4_nameIs_30 ⟨Nat.le_refl _, Nat.le_refl _⟩ (fun u_4 H locs eu_4 hP hD hS => ?_)
          refine W.eq (g2 := F0 m 33 ls [.int u_4, .int x2_28]) rfl ?_
          have hw_u_4 := wd_le hi_iw eu_4
          refine lv_icmp_ge (tgt := 65) hx hb dX4_nameIs_33 (by decide) (fun c_5 => ?_) (fun c_5 => ?_)
          · have d_5 := i_le rfl rfl c_5
            refine lv_iconst (v := 1) hx hb dX4_nameIs_65 (by decide) ?_
            rw [hQm]
            exact mx_zret (u0 := sX4_nameIs iw p_len p_bytes d_place d_token d_start) (rv := (fun u => some (.int u))) (w1 := (fun _ => tpW U cB p_len p_bytes ++ (rdW Q U cI d_place d_token d_value d_start d_fault d_num ++ R))) (u := (1)) hx hb hr hlocks hK hS (hT_28.trans (lt_eq eu_4 ((if_pos c_5).trans rfl))) hP hD rfl rfl dX4_nameIs_66
          · have d_5 := i_len rfl rfl c_5
            refine lv_aload_n hx hb dX4_nameIs_36 rfl (lv_at hl 1 rfl) ?_
            refine va_get (D := D) (ci := 4) (v := .ref (U 0)) (C := RX4) (T := TX4) (N := 7) hx hb hts iX4 hown hK hP 2 rfl rfl 0 (by decide) k31 (fun _ h9 => h9) rfl dX4_nameIs_37 ?_
            refine lv_aload_n hx hb dX4_nameIs_40 rfl (lv_at hl 1 rfl) ?_
            refine va_get (D := D) (ci := 4) (v := .int d_start) (C := RX4) (T := TX4) (N := 7) hx hb hts iX4 hown hK hP 2 rfl rfl 5 (by decide) k25 (fun _ h9 => h9) rfl dX4_nameIs_41 ?_
            refine lv_iload_n hx hb dX4_nameIs_44 rfl (lv_at hl 0 rfl) ?_
            refine lv_iadd hx hb dX4_nameIs_45 ?_
            refine mx_callV (As := [.int (d_start + x2_28)]) (rest := []) ⟨hx, hb, hml, hown, hts⟩ (mtX7_byteAt l D cI cB cK cS U (rdW Q U cI d_place d_token d_value d_start d_fault d_num ++ R) p_len p_bytes (d_start + x2_28)) (cwV 1 hts gX4_nameIs_X7_byteAt rfl rfl rfl (by decide +kernel) ⟨Nat.le_of_ble_eq_true rfl, Nat.le_of_ble_eq_true rfl⟩) pF0_ok trivial hK hP hD hS hA 0 rfl rfl rfl rfl hl.1 rfl (Nat.le_of_ble_eq_true rfl) dX4_nameIs_46 ⟨Nat.le_refl _, Nat.le_refl _⟩ (fun u_6 H locs eu_6 hP hD hS => ?_)
            refine W.eq (g2 := F0 m 49 ls [.int u_6]) rfl ?_
            have hP : va_P D vwCl (tpW U cB p_len p_bytes ++ (rdW Q U cI d_place d_token d_value d_start d_fault d_num ++ R)) H := hP
            have hD : va_D A (tpW U cB p_len p_bytes ++ (rdW Q U cI d_place d_token d_value d_start d_fault d_num ++ R)) := hD
            refine lv_aload_n hx hb dX4_nameIs_49 rfl (lv_at hl 2 rfl) ?_
            refine lv_iload_n hx hb dX4_nameIs_50 rfl (lv_at hl 0 rfl) ?_
            refine mx_callK (As := [.int x2_28]) (rest := [.int u_6]) ⟨hx, hb, hml, hown, hts⟩ (mtJ0_charAt_5068e l D cI cB cK cS (tpW U cB p_len p_bytes ++ (rdW Q U cI d_place d_token d_value d_start d_fault d_num ++ R)) t ks kb iw x2_28 hi_iw (by omega) (by omega)) (cwV 1 hts gX4_nameIs_J0_charAt_5068e rfl rfl rfl (by decide +kernel) ⟨Nat.le_of_ble_eq_true rfl, Nat.le_of_ble_eq_true rfl⟩) pFs_ok hF hK hP hD hS hA (vk_recv hF.2.2.2.1 hi_iw hS) rfl hl.1 rfl (Nat.le_of_ble_eq_true rfl) dX4_nameIs_51 ⟨Nat.le_refl _, Nat.le_refl _⟩ (fun u_7 H locs eu_7 hP hD hS => ?_)
            refine W.eq (g2 := F0 m 54 ls [.int u_7, .int u_6]) rfl ?_
            refine lv_icmp_eq (tgt := 59) hx hb dX4_nameIs_54 (by decide) (fun c_8 => ?_) (fun c_8 => ?_)
            · have d_8 := i_eq rfl rfl c_8
              obtain ⟨x_9, ex_9⟩ : ∃ z : Int32, z = x2_28 + 1 := ⟨_, rfl⟩
              refine lv_iinc (v := x_9) (lv' := [(2, .int x_9), (0, .ref (Q 0)), (1, .ref (ks iw))]) hx hb dX4_nameIs_59 hl (k := 0) rfl (by rw [ex_9]; rfl) (by decide) rfl (fun ls hl => ?_)
              refine lv_goto (tgt := 28) hx hb dX4_nameIs_62 (by decide) ?_
              try have tx_9 : x_9.toInt = x2_28.toInt + 1 := i_inc ex_9 (by decide) (by omega) (by omega)
              exact ih_28 x_9 H locs ls (by first | omega | assumption) (by first | omega | assumption) (by first | omega | assumption) (hT_28.trans (lt_eq eu_4 ((if_neg c_5).trans (lt_eq eu_6 (lt_eq eu_7 ((if_pos c_8).trans (lt_eq ex_9 rfl))))))) hP hD hS (lv_sub hl [0, 1, 2] rfl)
            · have d_8 := i_eqn rfl rfl c_8
              refine lv_iconst (v := 0) hx hb dX4_nameIs_57 (by decide) ?_
              rw [hQm]
              exact mx_zret (u0 := sX4_nameIs iw p_len p_bytes d_place d_token d_start) (rv := (fun u => some (.int u))) (w1 := (fun _ => tpW U cB p_len p_bytes ++ (rdW Q U cI d_place d_token d_value d_start d_fault d_num ++ R))) (u := (0)) hx hb hr hlocks hK hS (hT_28.trans (lt_eq eu_4 ((if_neg c_5).trans (lt_eq eu_6 (lt_eq eu_7 ((if_neg c_8).trans rfl)))))) hP hD rfl rfl dX4_nameIs_58
      exact L_28 9 0 H locs ls (by decide) (by decide) (by decide) ((if_pos c_1).trans (lt_eq eu_2 ((if_pos c_3).trans rfl))) hP hD hS (lv_sub hl [0, 1, 2] rfl)
    · have d_3 := i_eqn rfl rfl c_3
      refine lv_iconst (v := 0) hx hb dX4_nameIs_24 (by decide) ?_
      rw [hQm]
      exact mx_zret (u0 := sX4_nameIs iw p_len p_bytes d_place d_token d_start) (rv := (fun u => some (.int u))) (w1 := (fun _ => tpW U cB p_len p_bytes ++ (rdW Q U cI d_place d_token d_value d_start d_fault d_num ++ R))) (u := (0)) hx hb hr hlocks hK hS ((if_pos c_1).trans (lt_eq eu_2 ((if_neg c_3).trans rfl))) hP hD rfl rfl dX4_nameIs_25
theorem lX4_nameIs_28_z {iw : Nat} {p_len d_start : Int32} {p_bytes : Nat → Int32} : ∀ (n : Nat) (x : Int32), lX4_nameIs_28 iw p_len p_bytes d_start n x = 0 ∨ lX4_nameIs_28 iw p_len p_bytes d_start n x = 1 := by
  intro n
  induction n with
  | zero => intro x; exact Or.inl rfl
  | succ n ih =>
    intro x
    unfold lX4_nameIs_28
    repeat' first | with_reducible exact ih _ | with_reducible refine if_P (fun r : Int32 => r = 0 ∨ r = 1) (fun _ => ?_) (fun _ => ?_) | with_reducible refine lt_P (fun _ => True) (fun r : Int32 => r = 0 ∨ r = 1) trivial (fun _ _ => ?_) | exact Or.inl rfl | exact Or.inr rfl
theorem sX4_nameIs_z {u : Int32} {iw : Nat} {p_len d_place d_token d_start : Int32} {p_bytes : Nat → Int32} (e : u = sX4_nameIs iw p_len p_bytes d_place d_token d_start) : u = 0 ∨ u = 1 := by
  rw [e]
  unfold sX4_nameIs
  repeat' first | with_reducible exact lX4_nameIs_28_z _ _ | with_reducible refine if_P (fun r : Int32 => r = 0 ∨ r = 1) (fun _ => ?_) (fun _ => ?_) | with_reducible refine lt_P (fun _ => True) (fun r : Int32 => r = 0 ∨ r = 1) trivial (fun _ _ => ?_) | exact Or.inl rfl | exact Or.inr rfl
def sX4_takeName (iw : Nat) (p_len : Int32) (p_bytes : Nat → Int32) (d_place : Int32) (d_fault : Int32) : Int32 × (Int32) × (Int32) × (Int32) × (Int32) × (Int32) := lt (sX4_scan p_len p_bytes d_place) (fun u_1 : (Int32) × (Int32) × (Int32) × (Int32) => lt (sX4_nameIs iw p_len p_bytes u_1.1 u_1.2.1 u_1.2.2.2) (fun u_2 : Int32 => if u_2 = 0 then (lt (sX4_failed 1) (fun u_4 : Int32 × (Int32) => if u_4.1 = 0 then ((0, u_1.1, u_1.2.1, u_1.2.2.1, u_1.2.2.2, u_4.2)) else ((1, u_1.1, u_1.2.1, u_1.2.2.1, u_1.2.2.2, u_4.2)))) else ((1, u_1.1, u_1.2.1, u_1.2.2.1, u_1.2.2.2, d_fault))))
set_option maxHeartbeats 4000000 in
set_option maxRecDepth 100000 in
theorem mtX4_takeName (l : Launch) (D : va_G) (cI cB cK cS : ClassId) (t ks kb : Nat → Nat) (U Q : Nat → Nat) (R : va_W) (iw : Nat) (p_len : Int32) (p_bytes : Nat → Int32) (d_place : Int32) (d_token : Int32) (d_value : Int32) (d_start : Int32) (d_fault : Int32) (d_num : Nat → Int32) (hpl : pl_ok d_place) (hl1 : p_len.toInt ≤ 400) (hi_iw : iw < 9) : MX l yX4_takeName wsX4_takeName (rmX 6) D (tyX cI cB cK cS) (pFs t ks kb) (tpW U cB p_len p_bytes ++ (rdW Q U cI d_place d_token d_value d_start d_fault d_num ++ R)) [.ref (Q 0), .ref (ks iw)] (sX4_takeName iw p_len p_bytes d_place d_fault) (fun u => some (.int u.1)) (fun u => tpW U cB p_len p_bytes ++ (rdW Q U cI u.2.1 u.2.2.1 u.2.2.2.1 u.2.2.2.2.1 u.2.2.2.2.2 d_num ++ R)) := by
  refine mx_intro (cc := cX4_takeName) (maxL := 2) (ret := (some .boolean)) (by decide) rfl (Nat.le_of_ble_eq_true rfl) ?_
  intro p e s m below meth c A ls H locs Qm hQm hx hb hr hml hts hown hlocks hA hS hP hK hD hF hl
  have hown : s.vm.findClass RX4 = some m.cls := hown
  have hl : lv_has ls 2 [(0, .ref (Q 0)), (1, .ref (ks iw))] := hl
  refine lv_aload_n hx hb dX4_takeName_0 rfl (lv_at hl 0 rfl) ?_
  refine mx_callV (As := []) (rest := []) ⟨hx, hb, hml, hown, hts⟩ (mtX4_scan l D cI cB cK cS U Q R p_len p_bytes d_place d_token d_value d_start d_fault d_num (by first | assumption | omega) (by first | assumption | omega)) (cwV 0 hts gX4_takeName_X4_scan rfl rfl rfl (by decide +kernel) ⟨Nat.le_of_ble_eq_true rfl, Nat.le_of_ble_eq_true rfl⟩) pF0_ok trivial hK hP hD hS hA 2 rfl rfl rfl rfl hl.1 rfl (Nat.le_of_ble_eq_true rfl) dX4_takeName_1 ⟨Nat.le_refl _, Nat.le_refl _⟩ (fun u_1 H locs eu_1 hP hD hS => ?_)
  refine W.eq (g2 := F0 m 4 ls []) rfl ?_
  have hP : va_P D vwCl (tpW U cB p_len p_bytes ++ (rdW Q U cI u_1.1 u_1.2.1 u_1.2.2.1 u_1.2.2.2 d_fault d_num ++ R)) H := hP
  have hD : va_D A (tpW U cB p_len p_bytes ++ (rdW Q U cI u_1.1 u_1.2.1 u_1.2.2.1 u_1.2.2.2 d_fault d_num ++ R)) := hD
  have hpl_u_1 := sX4_scan_ok (by assumption) (by assumption) eu_1
  refine lv_aload_n hx hb dX4_takeName_4 rfl (lv_at hl 0 rfl) ?_
  refine lv_aload_n hx hb dX4_takeName_5 rfl (lv_at hl 1 rfl) ?_
  refine mx_callV (As := [.ref (ks iw)]) (rest := []) ⟨hx, hb, hml, hown, hts⟩ (mtX4_nameIs l D cI cB cK cS t ks kb U Q R iw p_len p_bytes u_1.1 u_1.2.1 u_1.2.2.1 u_1.2.2.2 d_fault d_num hi_iw) (cwV 1 hts gX4_takeName_X4_nameIs rfl rfl rfl (by decide +kernel) ⟨Nat.le_of_ble_eq_true rfl, Nat.le_of_ble_eq_true rfl⟩) pFs_ok hF hK hP hD hS hA 2 rfl rfl rfl rfl hl.1 rfl (Nat.le_of_ble_eq_true rfl) dX4_takeName_6 ⟨Nat.le_refl _, Nat.le_refl _⟩ (fun u_2 H locs eu_2 hP hD hS => ?_)
  refine W.eq (g2 := F0 m 9 ls [.int u_2]) rfl ?_
  have hP : va_P D vwCl (tpW U cB p_len p_bytes ++ (rdW Q U cI u_1.1 u_1.2.1 u_1.2.2.1 u_1.2.2.2 d_fault d_num ++ R)) H := hP
  have hD : va_D A (tpW U cB p_len p_bytes ++ (rdW Q U cI u_1.1 u_1.2.1 u_1.2.2.1 u_1.2.2.2 d_fault d_num ++ R)) := hD
  refine lv_if_ne (tgt := 20) hx hb dX4_takeName_9 (by decide) (fun c_3 => ?_) (fun c_3 => ?_)
  · refine lv_iconst (v := 1) hx hb dX4_takeName_20 (by decide) ?_
    refine lv_goto (tgt := 25) hx hb dX4_takeName_21 (by decide) ?_
    rw [hQm]
    exact mx_zret (u0 := sX4_takeName iw p_len p_bytes d_place d_fault) (rv := (fun u => some (.int u.1))) (w1 := (fun u => tpW U cB p_len p_bytes ++ (rdW Q U cI u.2.1 u.2.2.1 u.2.2.2.1 u.2.2.2.2.1 u.2.2.2.2.2 d_num ++ R))) (u := (1, u_1.1, u_1.2.1, u_1.2.2.1, u_1.2.2.2, d_fault)) hx hb hr hlocks hK hS (lt_eq eu_1 (lt_eq eu_2 ((if_neg c_3).trans rfl))) hP hD rfl rfl dX4_takeName_25
  · refine lv_aload_n hx hb dX4_takeName_12 rfl (lv_at hl 0 rfl) ?_
    refine lv_iconst (v := 1) hx hb dX4_takeName_13 (by decide) ?_
    refine mx_callV (As := [.int 1]) (rest := []) ⟨hx, hb, hml, hown, hts⟩ (mtX4_failed l D cI cB cK cS U Q R p_len p_bytes u_1.1 u_1.2.1 u_1.2.2.1 u_1.2.2.2 d_fault d_num 1) (cwV 1 hts gX4_takeName_X4_failed rfl rfl rfl (by decide +kernel) ⟨Nat.le_of_ble_eq_true rfl, Nat.le_of_ble_eq_true rfl⟩) pF0_ok trivial hK hP hD hS hA 2 rfl rfl rfl rfl hl.1 rfl (Nat.le_of_ble_eq_true rfl) dX4_takeName_14 ⟨Nat.le_refl _, Nat.le_refl _⟩ (fun u_4 H locs eu_4 hP hD hS => ?_)
    refine W.eq (g2 := F0 m 17 ls [.int u_4.1]) rfl ?_
    have hP : va_P D vwCl (tpW U cB p_len p_bytes ++ (rdW Q U cI u_1.1 u_1.2.1 u_1.2.2.1 u_1.2.2.2 u_4.2 d_num ++ R)) H := hP
    have hD : va_D A (tpW U cB p_len p_bytes ++ (rdW Q U cI u_1.1 u_1.2.1 u_1.2.2.1 u_1.2.2.2 u_4.2 d_num ++ R)) := hD
    refine lv_if_eq (tgt := 24) hx hb dX4_takeName_17 (by decide) (fun c_5 => ?_) (fun c_5 => ?_)
    · refine lv_iconst (v := 0) hx hb dX4_takeName_24 (by decide) ?_
      rw [hQm]
      exact mx_zret (u0 := sX4_takeName iw p_len p_bytes d_place d_fault) (rv := (fun u => some (.int u.1))) (w1 := (fun u => tpW U cB p_len p_bytes ++ (rdW Q U cI u.2.1 u.2.2.1 u.2.2.2.1 u.2.2.2.2.1 u.2.2.2.2.2 d_num ++ R))) (u := (0, u_1.1, u_1.2.1, u_1.2.2.1, u_1.2.2.2, u_4.2)) hx hb hr hlocks hK hS (lt_eq eu_1 (lt_eq eu_2 ((if_pos c_3).trans (lt_eq eu_4 ((if_pos c_5).trans rfl))))) hP hD rfl rfl dX4_takeName_25
    · refine lv_iconst (v := 1) hx hb dX4_takeName_20 (by decide) ?_
      refine lv_goto (tgt := 25) hx hb dX4_takeName_21 (by decide) ?_
      rw [hQm]
      exact mx_zret (u0 := sX4_takeName iw p_len p_bytes d_place d_fault) (rv := (fun u => some (.int u.1))) (w1 := (fun u => tpW U cB p_len p_bytes ++ (rdW Q U cI u.2.1 u.2.2.1 u.2.2.2.1 u.2.2.2.2.1 u.2.2.2.2.2 d_num ++ R))) (u := (1, u_1.1, u_1.2.1, u_1.2.2.1, u_1.2.2.2, u_4.2)) hx hb hr hlocks hK hS (lt_eq eu_1 (lt_eq eu_2 ((if_pos c_3).trans (lt_eq eu_4 ((if_neg c_5).trans rfl))))) hP hD rfl rfl dX4_takeName_25
theorem sX4_takeName_ok {iw : Nat} {p_len x d_fault : Int32} {p_bytes : Nat → Int32} {u : Int32 × (Int32) × (Int32) × (Int32) × (Int32) × (Int32)} (h : pl_ok x) (hl : p_len.toInt ≤ 400) (e : u = sX4_takeName iw p_len p_bytes x d_fault) : pl_ok u.2.1 := by
  rw [e]
  unfold sX4_takeName
  show (fun r : Int32 × (Int32) × (Int32) × (Int32) × (Int32) × (Int32) => pl_ok r.2.1) _
  repeat' first | with_reducible refine if_P (fun r : Int32 × (Int32) × (Int32) × (Int32) × (Int32) × (Int32) => pl_ok r.2.1) (fun _ => ?_) (fun _ => ?_) | with_reducible refine lt_P (fun r : (Int32) × (Int32) × (Int32) × (Int32) => pl_ok r.1) (fun r : Int32 × (Int32) × (Int32) × (Int32) × (Int32) × (Int32) => pl_ok r.2.1) (sX4_scan_ok (by assumption) (by assumption) rfl) (fun _ _ => ?_) | with_reducible refine lt_P (fun _ => True) (fun r : Int32 × (Int32) × (Int32) × (Int32) × (Int32) × (Int32) => pl_ok r.2.1) trivial (fun _ _ => ?_) | assumption
def lX4_takeNumbers_2 (a : Nat) (b : Nat) (p_len : Int32) (p_bytes : Nat → Int32) : Nat → Int32 → Int32 → Int32 → Int32 → Int32 → Int32 → (Nat → Int32) → Int32 × (Int32) × (Int32) × (Int32) × (Int32) × (Int32) × (Nat → Int32)
  | 0, x3_2, d_place1_2, d_token1_2, d_value1_2, d_start1_2, d_fault1_2, d_num1_2 => (0, d_place1_2, d_token1_2, d_value1_2, d_start1_2, d_fault1_2, d_num1_2)
  | n + 1, x3_2, d_place1_2, d_token1_2, d_value1_2, d_start1_2, d_fault1_2, d_num1_2 => if (nI (tbN a)) ≤ x3_2 then (lt (sX4_scan p_len p_bytes d_place1_2) (fun u_2 : (Int32) × (Int32) × (Int32) × (Int32) => if u_2.2.1 = 3 then ((1, u_2.1, u_2.2.1, u_2.2.2.1, u_2.2.2.2, d_fault1_2, d_num1_2)) else (lt (sX4_failed 1) (fun u_4 : Int32 × (Int32) => if u_4.1 = 0 then ((0, u_2.1, u_2.2.1, u_2.2.2.1, u_2.2.2.2, u_4.2, d_num1_2)) else ((1, u_2.1, u_2.2.1, u_2.2.2.1, u_2.2.2.2, u_4.2, d_num1_2)))))) else (if (nI (tbN b)) ≤ x3_2 then (lt (sX4_scan p_len p_bytes d_place1_2) (fun u_7 : (Int32) × (Int32) × (Int32) × (Int32) => if u_7.2.1 = 3 then ((1, u_7.1, u_7.2.1, u_7.2.2.1, u_7.2.2.2, d_fault1_2, d_num1_2)) else (lt (sX4_failed 1) (fun u_9 : Int32 × (Int32) => if u_9.1 = 0 then ((0, u_7.1, u_7.2.1, u_7.2.2.1, u_7.2.2.2, u_9.2, d_num1_2)) else ((1, u_7.1, u_7.2.1, u_7.2.2.1, u_7.2.2.2, u_9.2, d_num1_2)))))) else (if 5 ≤ x3_2 then (lt (sX4_scan p_len p_bytes d_place1_2) (fun u_12 : (Int32) × (Int32) × (Int32) × (Int32) => if u_12.2.1 = 3 then ((1, u_12.1, u_12.2.1, u_12.2.2.1, u_12.2.2.2, d_fault1_2, d_num1_2)) else (lt (sX4_failed 1) (fun u_14 : Int32 × (Int32) => if u_14.1 = 0 then ((0, u_12.1, u_12.2.1, u_12.2.2.1, u_12.2.2.2, u_14.2, d_num1_2)) else ((1, u_12.1, u_12.2.1, u_12.2.2.1, u_12.2.2.2, u_14.2, d_num1_2)))))) else (lt (sX4_takeNumber (tbF a x3_2.toNatClampNeg) (tbF b x3_2.toNatClampNeg) p_len p_bytes d_place1_2 d_fault1_2) (fun u_18 : Int32 × (Int32) × (Int32) × (Int32) × (Int32) × (Int32) => if u_18.1 = 0 then ((0, u_18.2.1, u_18.2.2.1, u_18.2.2.2.1, u_18.2.2.2.2.1, u_18.2.2.2.2.2, d_num1_2)) else (lt (upd d_num1_2 x3_2.toNatClampNeg u_18.2.2.2.1) (fun ar_21 : Nat → Int32 => lt (x3_2 + 1) (fun x_22 : Int32 => lX4_takeNumbers_2 a b p_len p_bytes n x_22 u_18.2.1 u_18.2.2.1 u_18.2.2.2.1 u_18.2.2.2.2.1 u_18.2.2.2.2.2 ar_21)))))))

def sX4_takeNumbers (a : Nat) (b : Nat) (p_len : Int32) (p_bytes : Nat → Int32) (d_place : Int32) (d_token : Int32) (d_value : Int32) (d_start : Int32) (d_fault : Int32) (d_num : Nat → Int32) : Int32 × (Int32) × (Int32) × (Int32) × (Int32) × (Int32) × (Nat → Int32) := lX4_takeNumbers_2 a b p_len p_bytes 6 0 d_place d_token d_value d_start d_fault d_num
set_option maxHeartbeats 4000000 in
set_option maxRecDepth 100000 in
theorem mtX4_takeNumbers (l : Launch) (D : va_G) (cI cB cK cS : ClassId) (t ks kb : Nat → Nat) (U Q : Nat → Nat) (R : va_W) (a b : Nat) (p_len : Int32) (p_bytes : Nat → Int32) (d_place : Int32) (d_token : Int32) (d_value : Int32) (d_start : Int32) (d_fault : Int32) (d_num : Nat → Int32) (hpl : pl_ok d_place) (hl1 : p_len.toInt ≤ 400) (ha : a < 9) (hb9 : b < 9) : MX l yX4_takeNumbers wsX4_takeNumbers (rmX 4) D (tyX cI cB cK cS) (pFs t ks kb) (tpW U cB p_len p_bytes ++ (rdW Q U cI d_place d_token d_value d_start d_fault d_num ++ R)) [.ref (Q 0), .ref (t a), .ref (t b)] (sX4_takeNumbers a b p_len p_bytes d_place d_token d_value d_start d_fault d_num) (fun u => some (.int u.1)) (fun u => tpW U cB p_len p_bytes ++ (rdW Q U cI u.2.1 u.2.2.1 u.2.2.2.1 u.2.2.2.2.1 u.2.2.2.2.2.1 u.2.2.2.2.2.2 ++ R)) := by
  refine mx_intro (cc := cX4_takeNumbers) (maxL := 4) (ret := (some .boolean)) (by decide) rfl (Nat.le_of_ble_eq_true rfl) ?_
  intro p e s m below meth c A ls H locs Qm hQm hx hb hr hml hts hown hlocks hA hS hP hK hD hF hl
  have hown : s.vm.findClass RX4 = some m.cls := hown
  have hl : lv_has ls 4 [(0, .ref (Q 0)), (1, .ref (t a)), (2, .ref (t b))] := hl
  have hta := tb_le ha
  have htb := tb_le hb9
  have k19 := hts (.fieldLink RX4 19 "PigRounds$Reader" "token" "I") (by decide +kernel)
  have k9 := hts (.fieldLink RX4 9 "PigRounds$Reader" "numbers" "[I") (by decide +kernel)
  have k22 := hts (.fieldLink RX4 22 "PigRounds$Reader" "value" "I") (by decide +kernel)
  have iX4 : ∀ w ∈ u_ws RX4 TX4 7, w ∈ wsX4_takeNumbers := by decide +kernel
  refine lv_iconst (v := 0) hx hb dX4_takeNumbers_0 (by decide) ?_
  refine lv_istore_n (lv' := [(3, .int 0), (0, .ref (Q 0)), (1, .ref (t a)), (2, .ref (t b))]) hx hb dX4_takeNumbers_1 rfl hl (by decide) rfl (fun ls hl => ?_)
  have L_2 : ∀ (n : Nat) (x3_2 : Int32) (d_place1_2 : Int32) (d_token1_2 : Int32) (d_value1_2 : Int32) (d_start1_2 : Int32) (d_fault1_2 : Int32) (d_num1_2 : Nat → Int32) (H : Heap) (locs : List Loc) (ls : Array Slot), 0 ≤ x3_2.toInt → x3_2.toInt ≤ 5 → (5 : Int) < x3_2.toInt + ((n : Nat) : Int) → pl_ok d_place1_2 → (sX4_takeNumbers a b p_len p_bytes d_place d_token d_value d_start d_fault d_num = lX4_takeNumbers_2 a b p_len p_bytes n x3_2 d_place1_2 d_token1_2 d_value1_2 d_start1_2 d_fault1_2 d_num1_2) → va_P D vwCl (tpW U cB p_len p_bytes ++ (rdW Q U cI d_place1_2 d_token1_2 d_value1_2 d_start1_2 d_fault1_2 d_num1_2 ++ R)) H → va_D A (tpW U cB p_len p_bytes ++ (rdW Q U cI d_place1_2 d_token1_2 d_value1_2 d_start1_2 d_fault1_2 d_num1_2 ++ R)) → va_S A s.heap H locs → lv_has ls 4 [(3, .int x3_2), (0, .ref (Q 0)), (1, .ref (t a)), (2, .ref (t b))] → W p l e (rmX 4) s m ([.ref (Q 0), .ref (t a), .ref (t b)] : List Value).toArray below meth c H locs 0 0 Qm (F0 m 2 ls []) := by
    intro n
    induction n with
    | zero =>
      intro x3_2 d_place1_2 d_token1_2 d_value1_2 d_start1_2 d_fault1_2 d_num1_2 H locs ls iv_2_0 iv_2_1 iv_2_2 iv_2_3 hT_2 hP hD hS hl
      exfalso; omega
    | succ n ih_2 =>
      intro x3_2 d_place1_2 d_token1_2 d_value1_2 d_start1_2 d_fault1_2 d_num1_2 H locs ls iv_2_0 iv_2_1 iv_2_2 iv_2_3 hT_2 hP hD hS hl
      refine lv_iload_n hx hb dX4_takeNumbers_2 rfl (lv_at hl 0 rfl) ?_
      refine lv_aload_n hx hb dX4_takeNumbers_3 rfl (lv_at hl 2 rfl) ?_
      refine va_tlen (v := nI (tbN a)) hx hb (hF.1 a (by first | decide | assumption)).2 hS rfl dX4_takeNumbers_4 ?_
      refine lv_icmp_ge (tgt := 54) hx hb dX4_takeNumbers_5 (by decide) (fun c_1 => ?_) (fun c_1 => ?_)
      · have d_1 := i_le rfl rfl c_1
        refine lv_aload_n hx hb dX4_takeNumbers_54 rfl (lv_at hl 1 rfl) ?_
        refine mx_callV (As := []) (rest := []) ⟨hx, hb, hml, hown, hts⟩ (mtX4_scan l D cI cB cK cS U Q R p_len p_bytes d_place1_2 d_token1_2 d_value1_2 d_start1_2 d_fault1_2 d_num1_2 (by first | assumption | omega) (by first | assumption | omega)) (cwV 0 hts gX4_takeNumbers_X4_scan rfl rfl rfl (by decide +kernel) ⟨Nat.le_of_ble_eq_true rfl, Nat.le_of_ble_eq_true rfl⟩) pF0_ok trivial hK hP hD hS hA 2 rfl rfl rfl rfl hl.1 rfl (Nat.le_of_ble_eq_true rfl) dX4_takeNumbers_55 ⟨Nat.le_refl _, Nat.le_refl _⟩ (fun u_2 H locs eu_2 hP hD hS => ?_)
        refine W.eq (g2 := F0 m 58 ls []) rfl ?_
        have hP : va_P D vwCl (tpW U cB p_len p_bytes ++ (rdW Q U cI u_2.1 u_2.2.1 u_2.2.2.1 u_2.2.2.2 d_fault1_2 d_num1_2 ++ R)) H := hP
        have hD : va_D A (tpW U cB p_len p_bytes ++ (rdW Q U cI u_2.1 u_2.2.1 u_2.2.2.1 u_2.2.2.2 d_fault1_2 d_num1_2 ++ R)) := hD
        have hpl_u_2 := sX4_scan_ok (by assumption) (by assumption) eu_2
        refine lv_aload_n hx hb dX4_takeNumbers_58 rfl (lv_at hl 1 rfl) ?_
        refine va_get (D := D) (ci := 4) (v := .int u_2.2.1) (C := RX4) (T := TX4) (N := 7) hx hb hts iX4 hown hK hP 2 rfl rfl 3 (by decide) k19 (fun _ h9 => h9) rfl dX4_takeNumbers_59 ?_
        refine lv_iconst (v := 3) hx hb dX4_takeNumbers_62 (by decide) ?_
        refine lv_icmp_eq (tgt := 74) hx hb dX4_takeNumbers_63 (by decide) (fun c_3 => ?_) (fun c_3 => ?_)
        · have d_3 := i_eq rfl (show (3 : Int32).toInt = 3 from by decide) c_3
          refine lv_iconst (v := 1) hx hb dX4_takeNumbers_74 (by decide) ?_
          refine lv_goto (tgt := 79) hx hb dX4_takeNumbers_75 (by decide) ?_
          rw [hQm]
          exact mx_zret (u0 := sX4_takeNumbers a b p_len p_bytes d_place d_token d_value d_start d_fault d_num) (rv := (fun u => some (.int u.1))) (w1 := (fun u => tpW U cB p_len p_bytes ++ (rdW Q U cI u.2.1 u.2.2.1 u.2.2.2.1 u.2.2.2.2.1 u.2.2.2.2.2.1 u.2.2.2.2.2.2 ++ R))) (u := (1, u_2.1, u_2.2.1, u_2.2.2.1, u_2.2.2.2, d_fault1_2, d_num1_2)) hx hb hr hlocks hK hS (hT_2.trans ((if_pos c_1).trans (lt_eq eu_2 ((if_pos c_3).trans rfl)))) hP hD rfl rfl dX4_takeNumbers_79
        · have d_3 := i_eqn rfl (show (3 : Int32).toInt = 3 from by decide) c_3
          refine lv_aload_n hx hb dX4_takeNumbers_66 rfl (lv_at hl 1 rfl) ?_
          refine lv_iconst (v := 1) hx hb dX4_takeNumbers_67 (by decide) ?_
          refine mx_callV (As := [.int 1]) (rest := []) ⟨hx, hb, hml, hown, hts⟩ (mtX4_failed l D cI cB cK cS U Q R p_len p_bytes u_2.1 u_2.2.1 u_2.2.2.1 u_2.2.2.2 d_fault1_2 d_num1_2 1) (cwV 1 hts gX4_takeNumbers_X4_failed rfl rfl rfl (by decide +kernel) ⟨Nat.le_of_ble_eq_true rfl, Nat.le_of_ble_eq_true rfl⟩) pF0_ok trivial hK hP hD hS hA 2 rfl rfl rfl rfl hl.1 rfl (Nat.le_of_ble_eq_true rfl) dX4_takeNumbers_68 ⟨Nat.le_refl _, Nat.le_refl _⟩ (fun u_4 H locs eu_4 hP hD hS => ?_)
          refine W.eq (g2 := F0 m 71 ls [.int u_4.1]) rfl ?_
          have hP : va_P D vwCl (tpW U cB p_len p_bytes ++ (rdW Q U cI u_2.1 u_2.2.1 u_2.2.2.1 u_2.2.2.2 u_4.2 d_num1_2 ++ R)) H := hP
          have hD : va_D A (tpW U cB p_len p_bytes ++ (rdW Q U cI u_2.1 u_2.2.1 u_2.2.2.1 u_2.2.2.2 u_4.2 d_num1_2 ++ R)) := hD
          refine lv_if_eq (tgt := 78) hx hb dX4_takeNumbers_71 (by decide) (fun c_5 => ?_) (fun c_5 => ?_)
          · have d_5 := i_eq rfl (show (0 : Int32).toInt = 0 from by decide) c_5
            refine lv_iconst (v := 0) hx hb dX4_takeNumbers_78 (by decide) ?_
            rw [hQm]
            exact mx_zret (u0 := sX4_takeNumbers a b p_len p_bytes d_place d_token d_value d_start d_fault d_num) (rv := (fun u => some (.int u.1))) (w1 := (fun u => tpW U cB p_len p_bytes ++ (rdW Q U cI u.2.1 u.2.2.1 u.2.2.2.1 u.2.2.2.2.1 u.2.2.2.2.2.1 u.2.2.2.2.2.2 ++ R))) (u := (0, u_2.1, u_2.2.1, u_2.2.2.1, u_2.2.2.2, u_4.2, d_num1_2)) hx hb hr hlocks hK hS (hT_2.trans ((if_pos c_1).trans (lt_eq eu_2 ((if_neg c_3).trans (lt_eq eu_4 ((if_pos c_5).trans rfl)))))) hP hD rfl rfl dX4_takeNumbers_79
          · have d_5 := i_eqn rfl (show (0 : Int32).toInt = 0 from by decide) c_5
            refine lv_iconst (v := 1) hx hb dX4_takeNumbers_74 (by decide) ?_
            refine lv_goto (tgt := 79) hx hb dX4_takeNumbers_75 (by decide) ?_
            rw [hQm]
            exact mx_zret (u0 := sX4_takeNumbers a b p_len p_bytes d_place d_token d_value d_start d_fault d_num) (rv := (fun u => some (.int u.1))) (w1 := (fun u => tpW U cB p_len p_bytes ++ (rdW Q U cI u.2.1 u.2.2.1 u.2.2.2.1 u.2.2.2.2.1 u.2.2.2.2.2.1 u.2.2.2.2.2.2 ++ R))) (u := (1, u_2.1, u_2.2.1, u_2.2.2.1, u_2.2.2.2, u_4.2, d_num1_2)) hx hb hr hlocks hK hS (hT_2.trans ((if_pos c_1).trans (lt_eq eu_2 ((if_neg c_3).trans (lt_eq eu_4 ((if_neg c_5).trans rfl)))))) hP hD rfl rfl dX4_takeNumbers_79
      · have d_1 := i_len rfl rfl c_1
        refine lv_iload_n hx hb dX4_takeNumbers_8 rfl (lv_at hl 0 rfl) ?_
        refine lv_aload_n hx hb dX4_takeNumbers_9 rfl (lv_at hl 3 rfl) ?_
        refine va_tlen (v := nI (tbN b)) hx hb (hF.1 b (by first | decide | assumption)).2 hS rfl dX4_takeNumbers_10 ?_
        refine lv_icmp_ge (tgt := 54) hx hb dX4_takeNumbers_11 (by decide) (fun c_6 => ?_) (fun c_6 => ?_)
        · have d_6 := i_le rfl rfl c_6
          refine lv_aload_n hx hb dX4_takeNumbers_54 rfl (lv_at hl 1 rfl) ?_
          refine mx_callV (As := []) (rest := []) ⟨hx, hb, hml, hown, hts⟩ (mtX4_scan l D cI cB cK cS U Q R p_len p_bytes d_place1_2 d_token1_2 d_value1_2 d_start1_2 d_fault1_2 d_num1_2 (by first | assumption | omega) (by first | assumption | omega)) (cwV 0 hts gX4_takeNumbers_X4_scan rfl rfl rfl (by decide +kernel) ⟨Nat.le_of_ble_eq_true rfl, Nat.le_of_ble_eq_true rfl⟩) pF0_ok trivial hK hP hD hS hA 2 rfl rfl rfl rfl hl.1 rfl (Nat.le_of_ble_eq_true rfl) dX4_takeNumbers_55 ⟨Nat.le_refl _, Nat.le_refl _⟩ (fun u_7 H locs eu_7 hP hD hS => ?_)
          refine W.eq (g2 := F0 m 58 ls []) rfl ?_
          have hP : va_P D vwCl (tpW U cB p_len p_bytes ++ (rdW Q U cI u_7.1 u_7.2.1 u_7.2.2.1 u_7.2.2.2 d_fault1_2 d_num1_2 ++ R)) H := hP
          have hD : va_D A (tpW U cB p_len p_bytes ++ (rdW Q U cI u_7.1 u_7.2.1 u_7.2.2.1 u_7.2.2.2 d_fault1_2 d_num1_2 ++ R)) := hD
          have hpl_u_7 := sX4_scan_ok (by assumption) (by assumption) eu_7
          refine lv_aload_n hx hb dX4_takeNumbers_58 rfl (lv_at hl 1 rfl) ?_
          refine va_get (D := D) (ci := 4) (v := .int u_7.2.1) (C := RX4) (T := TX4) (N := 7) hx hb hts iX4 hown hK hP 2 rfl rfl 3 (by decide) k19 (fun _ h9 => h9) rfl dX4_takeNumbers_59 ?_
          refine lv_iconst (v := 3) hx hb dX4_takeNumbers_62 (by decide) ?_
          refine lv_icmp_eq (tgt := 74) hx hb dX4_takeNumbers_63 (by decide) (fun c_8 => ?_) (fun c_8 => ?_)
          · have d_8 := i_eq rfl (show (3 : Int32).toInt = 3 from by decide) c_8
            refine lv_iconst (v := 1) hx hb dX4_takeNumbers_74 (by decide) ?_
            refine lv_goto (tgt := 79) hx hb dX4_takeNumbers_75 (by decide) ?_
            rw [hQm]
            exact mx_zret (u0 := sX4_takeNumbers a b p_len p_bytes d_place d_token d_value d_start d_fault d_num) (rv := (fun u => some (.int u.1))) (w1 := (fun u => tpW U cB p_len p_bytes ++ (rdW Q U cI u.2.1 u.2.2.1 u.2.2.2.1 u.2.2.2.2.1 u.2.2.2.2.2.1 u.2.2.2.2.2.2 ++ R))) (u := (1, u_7.1, u_7.2.1, u_7.2.2.1, u_7.2.2.2, d_fault1_2, d_num1_2)) hx hb hr hlocks hK hS (hT_2.trans ((if_neg c_1).trans ((if_pos c_6).trans (lt_eq eu_7 ((if_pos c_8).trans rfl))))) hP hD rfl rfl dX4_takeNumbers_79
          · have d_8 := i_eqn rfl (show (3 : Int32).toInt = 3 from by decide) c_8
            refine lv_aload_n hx hb dX4_takeNumbers_66 rfl (lv_at hl 1 rfl) ?_
            refine lv_iconst (v := 1) hx hb dX4_takeNumbers_67 (by decide) ?_
            refine mx_callV (As := [.int 1]) (rest := []) ⟨hx, hb, hml, hown, hts⟩ (mtX4_failed l D cI cB cK cS U Q R p_len p_bytes u_7.1 u_7.2.1 u_7.2.2.1 u_7.2.2.2 d_fault1_2 d_num1_2 1) (cwV 1 hts gX4_takeNumbers_X4_failed rfl rfl rfl (by decide +kernel) ⟨Nat.le_of_ble_eq_true rfl, Nat.le_of_ble_eq_true rfl⟩) pF0_ok trivial hK hP hD hS hA 2 rfl rfl rfl rfl hl.1 rfl (Nat.le_of_ble_eq_true rfl) dX4_takeNumbers_68 ⟨Nat.le_refl _, Nat.le_refl _⟩ (fun u_9 H locs eu_9 hP hD hS => ?_)
            refine W.eq (g2 := F0 m 71 ls [.int u_9.1]) rfl ?_
            have hP : va_P D vwCl (tpW U cB p_len p_bytes ++ (rdW Q U cI u_7.1 u_7.2.1 u_7.2.2.1 u_7.2.2.2 u_9.2 d_num1_2 ++ R)) H := hP
            have hD : va_D A (tpW U cB p_len p_bytes ++ (rdW Q U cI u_7.1 u_7.2.1 u_7.2.2.1 u_7.2.2.2 u_9.2 d_num1_2 ++ R)) := hD
            refine lv_if_eq (tgt := 78) hx hb dX4_takeNumbers_71 (by decide) (fun c_10 => ?_) (fun c_10 => ?_)
            · have d_10 := i_eq rfl (show (0 : Int32).toInt = 0 from by decide) c_10
              refine lv_iconst (v := 0) hx hb dX4_takeNumbers_78 (by decide) ?_
              rw [hQm]
              exact mx_zret (u0 := sX4_takeNumbers a b p_len p_bytes d_place d_token d_value d_start d_fault d_num) (rv := (fun u => some (.int u.1))) (w1 := (fun u => tpW U cB p_len p_bytes ++ (rdW Q U cI u.2.1 u.2.2.1 u.2.2.2.1 u.2.2.2.2.1 u.2.2.2.2.2.1 u.2.2.2.2.2.2 ++ R))) (u := (0, u_7.1, u_7.2.1, u_7.2.2.1, u_7.2.2.2, u_9.2, d_num1_2)) hx hb hr hlocks hK hS (hT_2.trans ((if_neg c_1).trans ((if_pos c_6).trans (lt_eq eu_7 ((if_neg c_8).trans (lt_eq eu_9 ((if_pos c_10).trans rfl))))))) hP hD rfl rfl dX4_takeNumbers_79
            · have d_10 := i_eqn rfl (show (0 : Int32).toInt = 0 from by decide) c_10
              refine lv_iconst (v := 1) hx hb dX4_takeNumbers_74 (by decide) ?_
              refine lv_goto (tgt := 79) hx hb dX4_takeNumbers_75 (by decide) ?_
              rw [hQm]
              exact mx_zret (u0 := sX4_takeNumbers a b p_len p_bytes d_place d_token d_value d_start d_fault d_num) (rv := (fun u => some (.int u.1))) (w1 := (fun u => tpW U cB p_len p_bytes ++ (rdW Q U cI u.2.1 u.2.2.1 u.2.2.2.1 u.2.2.2.2.1 u.2.2.2.2.2.1 u.2.2.2.2.2.2 ++ R))) (u := (1, u_7.1, u_7.2.1, u_7.2.2.1, u_7.2.2.2, u_9.2, d_num1_2)) hx hb hr hlocks hK hS (hT_2.trans ((if_neg c_1).trans ((if_pos c_6).trans (lt_eq eu_7 ((if_neg c_8).trans (lt_eq eu_9 ((if_neg c_10).trans rfl))))))) hP hD rfl rfl dX4_takeNumbers_79
        · have d_6 := i_len rfl rfl c_6
          refine lv_iload_n hx hb dX4_takeNumbers_14 rfl (lv_at hl 0 rfl) ?_
          refine lv_aload_n hx hb dX4_takeNumbers_15 rfl (lv_at hl 1 rfl) ?_
          refine va_get (D := D) (ci := 4) (v := .ref (Q 1)) (C := RX4) (T := TX4) (N := 7) hx hb hts iX4 hown hK hP 2 rfl rfl 1 (by decide) k9 (fun _ h9 => h9) rfl dX4_takeNumbers_16 ?_
          refine va_alen (v := 5) hx hb hK hP 3 0 rfl rfl rfl dX4_takeNumbers_19 ?_
          refine lv_icmp_ge (tgt := 54) hx hb dX4_takeNumbers_20 (by decide) (fun c_11 => ?_) (fun c_11 => ?_)
          · have d_11 := i_le (show (5 : Int32).toInt = 5 from by decide) rfl c_11
            refine lv_aload_n hx hb dX4_takeNumbers_54 rfl (lv_at hl 1 rfl) ?_
            refine mx_callV (As := []) (rest := []) ⟨hx, hb, hml, hown, hts⟩ (mtX4_scan l D cI cB cK cS U Q R p_len p_bytes d_place1_2 d_token1_2 d_value1_2 d_start1_2 d_fault1_2 d_num1_2 (by first | assumption | omega) (by first | assumption | omega)) (cwV 0 hts gX4_takeNumbers_X4_scan rfl rfl rfl (by decide +kernel) ⟨Nat.le_of_ble_eq_true rfl, Nat.le_of_ble_eq_true rfl⟩) pF0_ok trivial hK hP hD hS hA 2 rfl rfl rfl rfl hl.1 rfl (Nat.le_of_ble_eq_true rfl) dX4_takeNumbers_55 ⟨Nat.le_refl _, Nat.le_refl _⟩ (fun u_12 H locs eu_12 hP hD hS => ?_)
            refine W.eq (g2 := F0 m 58 ls []) rfl ?_
            have hP : va_P D vwCl (tpW U cB p_len p_bytes ++ (rdW Q U cI u_12.1 u_12.2.1 u_12.2.2.1 u_12.2.2.2 d_fault1_2 d_num1_2 ++ R)) H := hP
            have hD : va_D A (tpW U cB p_len p_bytes ++ (rdW Q U cI u_12.1 u_12.2.1 u_12.2.2.1 u_12.2.2.2 d_fault1_2 d_num1_2 ++ R)) := hD
            have hpl_u_12 := sX4_scan_ok (by assumption) (by assumption) eu_12
            refine lv_aload_n hx hb dX4_takeNumbers_58 rfl (lv_at hl 1 rfl) ?_
            refine va_get (D := D) (ci := 4) (v := .int u_12.2.1) (C := RX4) (T := TX4) (N := 7) hx hb hts iX4 hown hK hP 2 rfl rfl 3 (by decide) k19 (fun _ h9 => h9) rfl dX4_takeNumbers_59 ?_
            refine lv_iconst (v := 3) hx hb dX4_takeNumbers_62 (by decide) ?_
            refine lv_icmp_eq (tgt := 74) hx hb dX4_takeNumbers_63 (by decide) (fun c_13 => ?_) (fun c_13 => ?_)
            · have d_13 := i_eq rfl (show (3 : Int32).toInt = 3 from by decide) c_13
              refine lv_iconst (v := 1) hx hb dX4_takeNumbers_74 (by decide) ?_
              refine lv_goto (tgt := 79) hx hb dX4_takeNumbers_75 (by decide) ?_
              rw [hQm]
              exact mx_zret (u0 := sX4_takeNumbers a b p_len p_bytes d_place d_token d_value d_start d_fault d_num) (rv := (fun u => some (.int u.1))) (w1 := (fun u => tpW U cB p_len p_bytes ++ (rdW Q U cI u.2.1 u.2.2.1 u.2.2.2.1 u.2.2.2.2.1 u.2.2.2.2.2.1 u.2.2.2.2.2.2 ++ R))) (u := (1, u_12.1, u_12.2.1, u_12.2.2.1, u_12.2.2.2, d_fault1_2, d_num1_2)) hx hb hr hlocks hK hS (hT_2.trans ((if_neg c_1).trans ((if_neg c_6).trans ((if_pos c_11).trans (lt_eq eu_12 ((if_pos c_13).trans rfl)))))) hP hD rfl rfl dX4_takeNumbers_79
            · have d_13 := i_eqn rfl (show (3 : Int32).toInt = 3 from by decide) c_13
              refine lv_aload_n hx hb dX4_takeNumbers_66 rfl (lv_at hl 1 rfl) ?_
              refine lv_iconst (v := 1) hx hb dX4_takeNumbers_67 (by decide) ?_
              refine mx_callV (As := [.int 1]) (rest := []) ⟨hx, hb, hml, hown, hts⟩ (mtX4_failed l D cI cB cK cS U Q R p_len p_bytes u_12.1 u_12.2.1 u_12.2.2.1 u_12.2.2.2 d_fault1_2 d_num1_2 1) (cwV 1 hts gX4_takeNumbers_X4_failed rfl rfl rfl (by decide +kernel) ⟨Nat.le_of_ble_eq_true rfl, Nat.le_of_ble_eq_true rfl⟩) pF0_ok trivial hK hP hD hS hA 2 rfl rfl rfl rfl hl.1 rfl (Nat.le_of_ble_eq_true rfl) dX4_takeNumbers_68 ⟨Nat.le_refl _, Nat.le_refl _⟩ (fun u_14 H locs eu_14 hP hD hS => ?_)
              refine W.eq (g2 := F0 m 71 ls [.int u_14.1]) rfl ?_
              have hP : va_P D vwCl (tpW U cB p_len p_bytes ++ (rdW Q U cI u_12.1 u_12.2.1 u_12.2.2.1 u_12.2.2.2 u_14.2 d_num1_2 ++ R)) H := hP
              have hD : va_D A (tpW U cB p_len p_bytes ++ (rdW Q U cI u_12.1 u_12.2.1 u_12.2.2.1 u_12.2.2.2 u_14.2 d_num1_2 ++ R)) := hD
              refine lv_if_eq (tgt := 78) hx hb dX4_takeNumbers_71 (by decide) (fun c_15 => ?_) (fun c_15 => ?_)
              · have d_15 := i_eq rfl (show (0 : Int32).toInt = 0 from by decide) c_15
                refine lv_iconst (v := 0) hx hb dX4_takeNumbers_78 (by decide) ?_
                rw [hQm]
                exact mx_zret (u0 := sX4_takeNumbers a b p_len p_bytes d_place d_token d_value d_start d_fault d_num) (rv := (fun u => some (.int u.1))) (w1 := (fun u => tpW U cB p_len p_bytes ++ (rdW Q U cI u.2.1 u.2.2.1 u.2.2.2.1 u.2.2.2.2.1 u.2.2.2.2.2.1 u.2.2.2.2.2.2 ++ R))) (u := (0, u_12.1, u_12.2.1, u_12.2.2.1, u_12.2.2.2, u_14.2, d_num1_2)) hx hb hr hlocks hK hS (hT_2.trans ((if_neg c_1).trans ((if_neg c_6).trans ((if_pos c_11).trans (lt_eq eu_12 ((if_neg c_13).trans (lt_eq eu_14 ((if_pos c_15).trans rfl)))))))) hP hD rfl rfl dX4_takeNumbers_79
              · have d_15 := i_eqn rfl (show (0 : Int32).toInt = 0 from by decide) c_15
                refine lv_iconst (v := 1) hx hb dX4_takeNumbers_74 (by decide) ?_
                refine lv_goto (tgt := 79) hx hb dX4_takeNumbers_75 (by decide) ?_
                rw [hQm]
                exact mx_zret (u0 := sX4_takeNumbers a b p_len p_bytes d_place d_token d_value d_start d_fault d_num) (rv := (fun u => some (.int u.1))) (w1 := (fun u => tpW U cB p_len p_bytes ++ (rdW Q U cI u.2.1 u.2.2.1 u.2.2.2.1 u.2.2.2.2.1 u.2.2.2.2.2.1 u.2.2.2.2.2.2 ++ R))) (u := (1, u_12.1, u_12.2.1, u_12.2.2.1, u_12.2.2.2, u_14.2, d_num1_2)) hx hb hr hlocks hK hS (hT_2.trans ((if_neg c_1).trans ((if_neg c_6).trans ((if_pos c_11).trans (lt_eq eu_12 ((if_neg c_13).trans (lt_eq eu_14 ((if_neg c_15).trans rfl)))))))) hP hD rfl rfl dX4_takeNumbers_79
          · have d_11 := i_len (show (5 : Int32).toInt = 5 from by decide) rfl c_11
            refine lv_aload_n hx hb dX4_takeNumbers_23 rfl (lv_at hl 1 rfl) ?_
            refine lv_aload_n hx hb dX4_takeNumbers_24 rfl (lv_at hl 2 rfl) ?_
            refine lv_iload_n hx hb dX4_takeNumbers_25 rfl (lv_at hl 0 rfl) ?_
            have q_16 : vp_in x3_2 (tbN a) := vp_in_iff.mpr ⟨by omega, by omega⟩
            refine va_ti (v := .int (tbF a x3_2.toNatClampNeg)) hx hb (hF.1 a (by first | decide | assumption)).2 hS q_16 rfl dX4_takeNumbers_26 ?_
            refine lv_aload_n hx hb dX4_takeNumbers_27 rfl (lv_at hl 3 rfl) ?_
            refine lv_iload_n hx hb dX4_takeNumbers_28 rfl (lv_at hl 0 rfl) ?_
            have q_17 : vp_in x3_2 (tbN b) := vp_in_iff.mpr ⟨by omega, by omega⟩
            refine va_ti (v := .int (tbF b x3_2.toNatClampNeg)) hx hb (hF.1 b (by first | decide | assumption)).2 hS q_17 rfl dX4_takeNumbers_29 ?_
            refine mx_callV (As := [.int (tbF a x3_2.toNatClampNeg), .int (tbF b x3_2.toNatClampNeg)]) (rest := []) ⟨hx, hb, hml, hown, hts⟩ (mtX4_takeNumber l D cI cB cK cS U Q R p_len p_bytes d_place1_2 d_token1_2 d_value1_2 d_start1_2 d_fault1_2 d_num1_2 (tbF a x3_2.toNatClampNeg) (tbF b x3_2.toNatClampNeg) (by first | assumption | omega) (by first | assumption | omega)) (cwV 2 hts gX4_takeNumbers_X4_takeNumber rfl rfl rfl (by decide +kernel) ⟨Nat.le_of_ble_eq_true rfl, Nat.le_of_ble_eq_true rfl⟩) pF0_ok trivial hK hP hD hS hA 2 rfl rfl rfl rfl hl.1 rfl (Nat.le_of_ble_eq_true rfl) dX4_takeNumbers_30 ⟨Nat.le_refl _, Nat.le_refl _⟩ (fun u_18 H locs eu_18 hP hD hS => ?_)
            refine W.eq (g2 := F0 m 33 ls [.int u_18.1]) rfl ?_
            have hP : va_P D vwCl (tpW U cB p_len p_bytes ++ (rdW Q U cI u_18.2.1 u_18.2.2.1 u_18.2.2.2.1 u_18.2.2.2.2.1 u_18.2.2.2.2.2 d_num1_2 ++ R)) H := hP
            have hD : va_D A (tpW U cB p_len p_bytes ++ (rdW Q U cI u_18.2.1 u_18.2.2.1 u_18.2.2.2.1 u_18.2.2.2.2.1 u_18.2.2.2.2.2 d_num1_2 ++ R)) := hD
            have hpl_u_18 := sX4_takeNumber_ok (by assumption) (by assumption) eu_18
            refine lv_if_ne (tgt := 38) hx hb dX4_takeNumbers_33 (by decide) (fun c_19 => ?_) (fun c_19 => ?_)
            · have d_19 := i_eqn rfl (show (0 : Int32).toInt = 0 from by decide) c_19
              refine lv_aload_n hx hb dX4_takeNumbers_38 rfl (lv_at hl 1 rfl) ?_
              refine va_get (D := D) (ci := 4) (v := .ref (Q 1)) (C := RX4) (T := TX4) (N := 7) hx hb hts iX4 hown hK hP 2 rfl rfl 1 (by decide) k9 (fun _ h9 => h9) rfl dX4_takeNumbers_39 ?_
              refine lv_iload_n hx hb dX4_takeNumbers_42 rfl (lv_at hl 0 rfl) ?_
              refine lv_aload_n hx hb dX4_takeNumbers_43 rfl (lv_at hl 1 rfl) ?_
              refine va_get (D := D) (ci := 4) (v := .int u_18.2.2.2.1) (C := RX4) (T := TX4) (N := 7) hx hb hts iX4 hown hK hP 2 rfl rfl 4 (by decide) k22 (fun _ h9 => h9) rfl dX4_takeNumbers_44 ?_
              have q_20 : vp_in x3_2 5 := vp_in_iff.mpr ⟨by omega, by omega⟩
              refine va_iast hx hb hK hP hD hS 3 0 rfl rfl q_20 dX4_takeNumbers_47 (fun H locs hP hD hS => ?_)
              obtain ⟨ar_21, ear_21⟩ : ∃ z : Nat → Int32, z = upd d_num1_2 x3_2.toNatClampNeg u_18.2.2.2.1 := ⟨_, rfl⟩
              have hP : va_P D vwCl (tpW U cB p_len p_bytes ++ (rdW Q U cI u_18.2.1 u_18.2.2.1 u_18.2.2.2.1 u_18.2.2.2.2.1 u_18.2.2.2.2.2 (upd d_num1_2 x3_2.toNatClampNeg u_18.2.2.2.1) ++ R)) H := hP
              have hD : va_D A (tpW U cB p_len p_bytes ++ (rdW Q U cI u_18.2.1 u_18.2.2.1 u_18.2.2.2.1 u_18.2.2.2.2.1 u_18.2.2.2.2.2 (upd d_num1_2 x3_2.toNatClampNeg u_18.2.2.2.1) ++ R)) := hD
              rw [← ear_21] at hP hD
              have hP : va_P D vwCl (tpW U cB p_len p_bytes ++ (rdW Q U cI u_18.2.1 u_18.2.2.1 u_18.2.2.2.1 u_18.2.2.2.2.1 u_18.2.2.2.2.2 ar_21 ++ R)) H := hP
              have hD : va_D A (tpW U cB p_len p_bytes ++ (rdW Q U cI u_18.2.1 u_18.2.2.1 u_18.2.2.2.1 u_18.2.2.2.2.1 u_18.2.2.2.2.2 ar_21 ++ R)) := hD
              obtain ⟨x_22, ex_22⟩ : ∃ z : Int32, z = x3_2 + 1 := ⟨_, rfl⟩
              refine lv_iinc (v := x_22) (lv' := [(3, .int x_22), (0, .ref (Q 0)), (1, .ref (t a)), (2, .ref (t b))]) hx hb dX4_takeNumbers_48 hl (k := 0) rfl (by rw [ex_22]; rfl) (by decide) rfl (fun ls hl => ?_)
              refine lv_goto (tgt := 2) hx hb dX4_takeNumbers_51 (by decide) ?_
              try have tx_22 : x_22.toInt = x3_2.toInt + 1 := i_inc ex_22 (by decide) (by omega) (by omega)
              exact ih_2 x_22 u_18.2.1 u_18.2.2.1 u_18.2.2.2.1 u_18.2.2.2.2.1 u_18.2.2.2.2.2 ar_21 H locs ls (by first | omega | assumption) (by first | omega | assumption) (by first | omega | assumption) (by first | omega | assumption) (hT_2.trans ((if_neg c_1).trans ((if_neg c_6).trans ((if_neg c_11).trans (lt_eq eu_18 ((if_neg c_19).trans (lt_eq ear_21 (lt_eq ex_22 rfl)))))))) hP hD hS (lv_sub hl [0, 1, 2, 3] rfl)
            · have d_19 := i_eq rfl (show (0 : Int32).toInt = 0 from by decide) c_19
              refine lv_iconst (v := 0) hx hb dX4_takeNumbers_36 (by decide) ?_
              rw [hQm]
              exact mx_zret (u0 := sX4_takeNumbers a b p_len p_bytes d_place d_token d_value d_start d_fault d_num) (rv := (fun u => some (.int u.1))) (w1 := (fun u => tpW U cB p_len p_bytes ++ (rdW Q U cI u.2.1 u.2.2.1 u.2.2.2.1 u.2.2.2.2.1 u.2.2.2.2.2.1 u.2.2.2.2.2.2 ++ R))) (u := (0, u_18.2.1, u_18.2.2.1, u_18.2.2.2.1, u_18.2.2.2.2.1, u_18.2.2.2.2.2, d_num1_2)) hx hb hr hlocks hK hS (hT_2.trans ((if_neg c_1).trans ((if_neg c_6).trans ((if_neg c_11).trans (lt_eq eu_18 ((if_pos c_19).trans rfl)))))) hP hD rfl rfl dX4_takeNumbers_37
  exact L_2 6 0 d_place d_token d_value d_start d_fault d_num H locs ls (by first | decide | assumption) (by first | decide | assumption) (by first | decide | assumption) (by first | decide | assumption) rfl hP hD hS (lv_sub hl [0, 1, 2, 3] rfl)
theorem lX4_takeNumbers_2_ok {a b : Nat} {p_len : Int32} {p_bytes : Nat → Int32} (hl : p_len.toInt ≤ 400) : ∀ (n : Nat) (k x y z w v : Int32) (f : Nat → Int32), pl_ok x → pl_ok (lX4_takeNumbers_2 a b p_len p_bytes n k x y z w v f).2.1 := by
  intro n
  induction n with
  | zero => intro k x y z w v f h; exact h
  | succ n ih =>
    intro k x y z w v f h
    unfold lX4_takeNumbers_2
    show (fun r : Int32 × (Int32) × (Int32) × (Int32) × (Int32) × (Int32) × (Nat → Int32) => pl_ok r.2.1) _
    repeat' first | with_reducible exact ih _ _ _ _ _ _ _ (by assumption) | with_reducible refine if_P (fun r : Int32 × (Int32) × (Int32) × (Int32) × (Int32) × (Int32) × (Nat → Int32) => pl_ok r.2.1) (fun _ => ?_) (fun _ => ?_) | with_reducible refine lt_P (fun r : (Int32) × (Int32) × (Int32) × (Int32) => pl_ok r.1) (fun r : Int32 × (Int32) × (Int32) × (Int32) × (Int32) × (Int32) × (Nat → Int32) => pl_ok r.2.1) (sX4_scan_ok (by assumption) (by assumption) rfl) (fun _ _ => ?_) | with_reducible refine lt_P (fun r : Int32 × (Int32) × (Int32) × (Int32) × (Int32) × (Int32) => pl_ok r.2.1) (fun r : Int32 × (Int32) × (Int32) × (Int32) × (Int32) × (Int32) × (Nat → Int32) => pl_ok r.2.1) (sX4_takeNumber_ok (by assumption) (by assumption) rfl) (fun _ _ => ?_) | with_reducible refine lt_P (fun _ => True) (fun r : Int32 × (Int32) × (Int32) × (Int32) × (Int32) × (Int32) × (Nat → Int32) => pl_ok r.2.1) trivial (fun _ _ => ?_) | assumption
theorem sX4_takeNumbers_ok {a b : Nat} {p_len x d_token d_value d_start d_fault : Int32} {p_bytes d_num : Nat → Int32} {u : Int32 × (Int32) × (Int32) × (Int32) × (Int32) × (Int32) × (Nat → Int32)} (h : pl_ok x) (hl : p_len.toInt ≤ 400) (e : u = sX4_takeNumbers a b p_len p_bytes x d_token d_value d_start d_fault d_num) : pl_ok u.2.1 := by
  rw [e]
  exact lX4_takeNumbers_2_ok hl 6 _ _ _ _ _ _ _ h
