theorem sX2_clear_kc {f mv : Nat → Int32} {u : (Nat → Int32) × (Nat → Int32)} (e : u = sX2_clear f mv) : 0 ≤ (u.1 2).toInt := by
  rw [e]
  unfold sX2_clear
  exact (show (0 : Int) ≤ (0 : Int32).toInt from by decide)
def lX4_readInto_38 (p_len : Int32) (p_bytes : Nat → Int32) : Nat → Int32 → Int32 → (Nat → Int32) → (Nat → Nat → Int32) → Int32 → Int32 → Int32 → Int32 → Int32 → (Nat → Int32) → Int32 × Int32 × (Nat → Int32) × (Nat → Nat → Int32) × Int32 × Int32 × Int32 × Int32 × Int32 × (Nat → Int32)
  | 0, x3_38, x2_38, f_38, kv_38, d_place2_38, d_token2_38, d_value2_38, d_start2_38, d_fault2_38, d_num2_38 => (x3_38, x2_38, f_38, kv_38, d_place2_38, d_token2_38, d_value2_38, d_start2_38, d_fault2_38, d_num2_38)
  | n + 1, x3_38, x2_38, f_38, kv_38, d_place2_38, d_token2_38, d_value2_38, d_start2_38, d_fault2_38, d_num2_38 => if x2_38 = 0 then ((x3_38, x2_38, f_38, kv_38, d_place2_38, d_token2_38, d_value2_38, d_start2_38, d_fault2_38, d_num2_38)) else (if 5 < x3_38 then ((x3_38, x2_38, f_38, kv_38, d_place2_38, d_token2_38, d_value2_38, d_start2_38, d_fault2_38, d_num2_38)) else (lt (sX4_scan p_len p_bytes d_place2_38) (fun u_9 : (Int32) × (Int32) × (Int32) × (Int32) => if u_9.2.1 = 0 then (lt (x3_38 + 1) (fun x_11 : Int32 => lX4_readInto_38 p_len p_bytes n x_11 0 f_38 kv_38 u_9.1 u_9.2.1 u_9.2.2.1 u_9.2.2.2 d_fault2_38 d_num2_38)) else (lt (sX4_readKind f_38 kv_38 p_len p_bytes u_9.1 u_9.2.1 u_9.2.2.1 u_9.2.2.2 d_fault2_38 d_num2_38) (fun u_12 : Int32 × (Nat → Int32) × (Nat → Nat → Int32) × (Int32) × (Int32) × (Int32) × (Int32) × (Int32) × (Nat → Int32) => lt (if u_12.1 = 0 then (0) else (1)) (fun y_13 : Int32 => lt (x3_38 + 1) (fun x_15 : Int32 => lX4_readInto_38 p_len p_bytes n x_15 y_13 u_12.2.1 u_12.2.2.1 u_12.2.2.2.1 u_12.2.2.2.2.1 u_12.2.2.2.2.2.1 u_12.2.2.2.2.2.2.1 u_12.2.2.2.2.2.2.2.1 u_12.2.2.2.2.2.2.2.2)))))))

def sX4_readInto (f : Nat → Int32) (kv : Nat → Nat → Int32) (mv : Nat → Int32) (p_len : Int32) (p_bytes : Nat → Int32) (d_num : Nat → Int32) : (Nat → Int32) × (Nat → Nat → Int32) × (Nat → Int32) × (Int32) × (Int32) × (Int32) × (Int32) × (Int32) × (Nat → Int32) := lt (sX2_clear f mv) (fun u_1 : (Nat → Int32) × (Nat → Int32) => lt (sX4_readMarket u_1.1 p_len p_bytes 0 0 d_num) (fun u_2 : Int32 × (Nat → Int32) × (Int32) × (Int32) × (Int32) × (Int32) × (Int32) × (Nat → Int32) => lt (if u_2.1 = 0 then ((0, u_2.2.1, u_2.2.2.1, u_2.2.2.2.1, u_2.2.2.2.2.1, u_2.2.2.2.2.2.1, u_2.2.2.2.2.2.2.1, u_2.2.2.2.2.2.2.2)) else (lt (sX4_readStart u_2.2.1 p_len p_bytes u_2.2.2.1 u_2.2.2.2.2.2.2.1 u_2.2.2.2.2.2.2.2) (fun u_5 : Int32 × (Nat → Int32) × (Int32) × (Int32) × (Int32) × (Int32) × (Int32) × (Nat → Int32) => if u_5.1 = 0 then ((0, u_5.2.1, u_5.2.2.1, u_5.2.2.2.1, u_5.2.2.2.2.1, u_5.2.2.2.2.2.1, u_5.2.2.2.2.2.2.1, u_5.2.2.2.2.2.2.2)) else ((1, u_5.2.1, u_5.2.2.1, u_5.2.2.2.1, u_5.2.2.2.2.1, u_5.2.2.2.2.2.1, u_5.2.2.2.2.2.2.1, u_5.2.2.2.2.2.2.2))))) (fun y_3 : Int32 × (Nat → Int32) × Int32 × Int32 × Int32 × Int32 × Int32 × (Nat → Int32) => lt (lX4_readInto_38 p_len p_bytes 7 0 y_3.1 y_3.2.1 kv y_3.2.2.1 y_3.2.2.2.1 y_3.2.2.2.2.1 y_3.2.2.2.2.2.1 y_3.2.2.2.2.2.2.1 y_3.2.2.2.2.2.2.2) (fun u_16 : Int32 × Int32 × (Nat → Int32) × (Nat → Nat → Int32) × Int32 × Int32 × Int32 × Int32 × Int32 × (Nat → Int32) => (u_16.2.2.1, u_16.2.2.2.1, u_1.2, u_16.2.2.2.2.1, u_16.2.2.2.2.2.1, u_16.2.2.2.2.2.2.1, u_16.2.2.2.2.2.2.2.1, u_16.2.2.2.2.2.2.2.2.1, u_16.2.2.2.2.2.2.2.2.2)))))
set_option maxHeartbeats 4000000 in
set_option maxRecDepth 100000 in
theorem mtX4_readInto (l : Launch) (D : va_G) (cI cB cK cS : ClassId) (t ks kb : Nat → Nat) (Z U Q : Nat → Nat) (R : va_W) (f : Nat → Int32) (kv : Nat → Nat → Int32) (mv : Nat → Int32) (p_len : Int32) (p_bytes : Nat → Int32) (d_place : Int32) (d_token : Int32) (d_value : Int32) (d_start : Int32) (d_fault : Int32) (d_num : Nat → Int32) (hl1 : p_len.toInt ≤ 400) : MX l yX4_readInto wsX4_readInto (rmX 9) D (tyX cI cB cK cS) (pFs t ks kb) (landW Z cK f kv mv ++ (tpW U cB p_len p_bytes ++ (rdW Q U cI d_place d_token d_value d_start d_fault d_num ++ R))) [.ref (Q 0), .ref (Z 0)] (sX4_readInto f kv mv p_len p_bytes d_num) (fun _ => none) (fun u => landW Z cK u.1 u.2.1 u.2.2.1 ++ (tpW U cB p_len p_bytes ++ (rdW Q U cI u.2.2.2.1 u.2.2.2.2.1 u.2.2.2.2.2.1 u.2.2.2.2.2.2.1 u.2.2.2.2.2.2.2.1 u.2.2.2.2.2.2.2.2 ++ R))) := by
  refine mx_intro (cc := cX4_readInto) (maxL := 4) (ret := none) (by decide) rfl (Nat.le_of_ble_eq_true rfl) ?_
  intro p e s m below meth c A ls H locs Qm hQm hx hb hr hml hts hown hlocks hA hS hP hK hD hF hl
  have hown : s.vm.findClass RX4 = some m.cls := hown
  have hl : lv_has ls 4 [(0, .ref (Q 0)), (1, .ref (Z 0))] := hl
  have hpl0 : pl_ok 0 := ⟨by decide, by decide⟩
  have k15 := hts (.fieldLink RX4 15 "PigRounds$Reader" "place" "I") (by decide +kernel)
  have k28 := hts (.fieldLink RX4 28 "PigRounds$Reader" "fault" "I") (by decide +kernel)
  have k19 := hts (.fieldLink RX4 19 "PigRounds$Reader" "token" "I") (by decide +kernel)
  have iX4 : ∀ w ∈ u_ws RX4 TX4 7, w ∈ wsX4_readInto := by decide +kernel
  refine lv_aload_n hx hb dX4_readInto_0 rfl (lv_at hl 0 rfl) ?_
  refine lv_iconst (v := 0) hx hb dX4_readInto_1 (by decide) ?_
  refine va_put (D := D) (ci := 4) (v := .int 0) (ty := .int) (C := RX4) (T := TX4) (N := 7) hx hb hts iX4 tyX4 tyX4_ok nmX4 hown hK hP hD hS 10 rfl rfl 2 (by decide) k15 (fun _ h9 => h9) rfl (by decide +kernel) rfl rfl (Nat.le_of_ble_eq_true rfl) dX4_readInto_2 (fun H locs hP hD hS => ?_)
  have hP : va_P D vwCl (landW Z cK f kv mv ++ (tpW U cB p_len p_bytes ++ (rdW Q U cI 0 d_token d_value d_start d_fault d_num ++ R))) H := hP
  have hD : va_D A (landW Z cK f kv mv ++ (tpW U cB p_len p_bytes ++ (rdW Q U cI 0 d_token d_value d_start d_fault d_num ++ R))) := hD
  refine lv_aload_n hx hb dX4_readInto_5 rfl (lv_at hl 0 rfl) ?_
  refine lv_iconst (v := 0) hx hb dX4_readInto_6 (by decide) ?_
  refine va_put (D := D) (ci := 4) (v := .int 0) (ty := .int) (C := RX4) (T := TX4) (N := 7) hx hb hts iX4 tyX4 tyX4_ok nmX4 hown hK hP hD hS 10 rfl rfl 6 (by decide) k28 (fun _ h9 => h9) rfl (by decide +kernel) rfl rfl (Nat.le_of_ble_eq_true rfl) dX4_readInto_7 (fun H locs hP hD hS => ?_)
  have hP : va_P D vwCl (landW Z cK f kv mv ++ (tpW U cB p_len p_bytes ++ (rdW Q U cI 0 d_token d_value d_start 0 d_num ++ R))) H := hP
  have hD : va_D A (landW Z cK f kv mv ++ (tpW U cB p_len p_bytes ++ (rdW Q U cI 0 d_token d_value d_start 0 d_num ++ R))) := hD
  refine lv_aload_n hx hb dX4_readInto_10 rfl (lv_at hl 1 rfl) ?_
  refine mx_callV (As := []) (rest := []) ⟨hx, hb, hml, hown, hts⟩ (mtX2_clear l D cI cB cK cS Z (tpW U cB p_len p_bytes ++ (rdW Q U cI 0 d_token d_value d_start 0 d_num ++ R)) f kv mv) (cwV 0 hts gX4_readInto_X2_clear rfl rfl rfl (by decide +kernel) ⟨Nat.le_of_ble_eq_true rfl, Nat.le_of_ble_eq_true rfl⟩) pF0_ok trivial hK hP hD hS hA 5 rfl rfl rfl rfl hl.1 rfl (Nat.le_of_ble_eq_true rfl) dX4_readInto_11 ⟨Nat.le_refl _, Nat.le_refl _⟩ (fun u_1 H locs eu_1 hP hD hS => ?_)
  refine W.eq (g2 := F0 m 14 ls []) rfl ?_
  have hP : va_P D vwCl (landW Z cK u_1.1 kv u_1.2 ++ (tpW U cB p_len p_bytes ++ (rdW Q U cI 0 d_token d_value d_start 0 d_num ++ R))) H := hP
  have hD : va_D A (landW Z cK u_1.1 kv u_1.2 ++ (tpW U cB p_len p_bytes ++ (rdW Q U cI 0 d_token d_value d_start 0 d_num ++ R))) := hD
  have hkc_u_1 := sX2_clear_kc eu_1
  refine lv_aload_n hx hb dX4_readInto_14 rfl (lv_at hl 0 rfl) ?_
  refine lv_aload_n hx hb dX4_readInto_15 rfl (lv_at hl 1 rfl) ?_
  refine mx_callV (As := [.ref (Z 0)]) (rest := []) ⟨hx, hb, hml, hown, hts⟩ (mtX4_readMarket l D cI cB cK cS t ks kb Z U Q R u_1.1 kv u_1.2 p_len p_bytes 0 d_token d_value d_start 0 d_num (by first | assumption | omega) (by first | assumption | omega) (by first | assumption | omega)) (cwV 1 hts gX4_readInto_X4_readMarket rfl rfl rfl (by decide +kernel) ⟨Nat.le_of_ble_eq_true rfl, Nat.le_of_ble_eq_true rfl⟩) pFs_ok hF hK hP hD hS hA 10 rfl rfl rfl rfl hl.1 rfl (Nat.le_of_ble_eq_true rfl) dX4_readInto_16 ⟨Nat.le_refl _, Nat.le_refl _⟩ (fun u_2 H locs eu_2 hP hD hS => ?_)
  refine W.eq (g2 := F0 m 19 ls [.int u_2.1]) rfl ?_
  have hP : va_P D vwCl (landW Z cK u_2.2.1 kv u_1.2 ++ (tpW U cB p_len p_bytes ++ (rdW Q U cI u_2.2.2.1 u_2.2.2.2.1 u_2.2.2.2.2.1 u_2.2.2.2.2.2.1 u_2.2.2.2.2.2.2.1 u_2.2.2.2.2.2.2.2 ++ R))) H := hP
  have hD : va_D A (landW Z cK u_2.2.1 kv u_1.2 ++ (tpW U cB p_len p_bytes ++ (rdW Q U cI u_2.2.2.1 u_2.2.2.2.1 u_2.2.2.2.2.1 u_2.2.2.2.2.2.1 u_2.2.2.2.2.2.2.1 u_2.2.2.2.2.2.2.2 ++ R))) := hD
  obtain ⟨hpl_u_2, hkc_u_2⟩ := sX4_readMarket_ok (by assumption) (by assumption) (by assumption) eu_2
  have J_3 : ∀ (y_3 : Int32 × (Nat → Int32) × Int32 × Int32 × Int32 × Int32 × Int32 × (Nat → Int32)) (H : Heap) (locs : List Loc) (ls : Array Slot), y_3 = (if u_2.1 = 0 then ((0, u_2.2.1, u_2.2.2.1, u_2.2.2.2.1, u_2.2.2.2.2.1, u_2.2.2.2.2.2.1, u_2.2.2.2.2.2.2.1, u_2.2.2.2.2.2.2.2)) else (lt (sX4_readStart u_2.2.1 p_len p_bytes u_2.2.2.1 u_2.2.2.2.2.2.2.1 u_2.2.2.2.2.2.2.2) (fun u_5 : Int32 × (Nat → Int32) × (Int32) × (Int32) × (Int32) × (Int32) × (Int32) × (Nat → Int32) => if u_5.1 = 0 then ((0, u_5.2.1, u_5.2.2.1, u_5.2.2.2.1, u_5.2.2.2.2.1, u_5.2.2.2.2.2.1, u_5.2.2.2.2.2.2.1, u_5.2.2.2.2.2.2.2)) else ((1, u_5.2.1, u_5.2.2.1, u_5.2.2.2.1, u_5.2.2.2.2.1, u_5.2.2.2.2.2.1, u_5.2.2.2.2.2.2.1, u_5.2.2.2.2.2.2.2))))) → va_P D vwCl (landW Z cK y_3.2.1 kv u_1.2 ++ (tpW U cB p_len p_bytes ++ (rdW Q U cI y_3.2.2.1 y_3.2.2.2.1 y_3.2.2.2.2.1 y_3.2.2.2.2.2.1 y_3.2.2.2.2.2.2.1 y_3.2.2.2.2.2.2.2 ++ R))) H → va_D A (landW Z cK y_3.2.1 kv u_1.2 ++ (tpW U cB p_len p_bytes ++ (rdW Q U cI y_3.2.2.1 y_3.2.2.2.1 y_3.2.2.2.2.1 y_3.2.2.2.2.2.1 y_3.2.2.2.2.2.2.1 y_3.2.2.2.2.2.2.2 ++ R))) → va_S A s.heap H locs → lv_has ls 4 [(0, .ref (Q 0)), (1, .ref (Z 0))] → W p l e (rmX 9) s m ([.ref (Q 0), .ref (Z 0)] : List Value).toArray below meth c H locs 0 0 Qm (F0 m 35 ls [.int y_3.1]) := by
    intro y_3 H locs ls ey_3 hP hD hS hl
    obtain ⟨hpl_y, hkc_y⟩ : pl_ok y_3.2.2.1 ∧ 0 ≤ (y_3.2.1 2).toInt := (by rw [ey_3]; show (fun r : Int32 × (Nat → Int32) × (Int32) × (Int32) × (Int32) × (Int32) × (Int32) × (Nat → Int32) => pl_ok r.2.2.1 ∧ 0 ≤ (r.2.1 2).toInt) _; repeat' first | with_reducible refine if_P (fun r : Int32 × (Nat → Int32) × (Int32) × (Int32) × (Int32) × (Int32) × (Int32) × (Nat → Int32) => pl_ok r.2.2.1 ∧ 0 ≤ (r.2.1 2).toInt) (fun _ => ?_) (fun _ => ?_) | with_reducible refine lt_P (fun r : Int32 × (Nat → Int32) × (Int32) × (Int32) × (Int32) × (Int32) × (Int32) × (Nat → Int32) => pl_ok r.2.2.1 ∧ 0 ≤ (r.2.1 2).toInt) (fun r : Int32 × (Nat → Int32) × (Int32) × (Int32) × (Int32) × (Int32) × (Int32) × (Nat → Int32) => pl_ok r.2.2.1 ∧ 0 ≤ (r.2.1 2).toInt) (sX4_readStart_ok (by assumption) (by assumption) (by assumption) rfl) (fun _ ⟨_, _⟩ => ?_) | with_reducible refine lt_P (fun _ => True) (fun r : Int32 × (Nat → Int32) × (Int32) × (Int32) × (Int32) × (Int32) × (Int32) × (Nat → Int32) => pl_ok r.2.2.1 ∧ 0 ≤ (r.2.1 2).toInt) trivial (fun _ _ => ?_) | exact ⟨by assumption, by assumption⟩)
    refine lv_istore_n (lv' := [(2, .int y_3.1), (0, .ref (Q 0)), (1, .ref (Z 0))]) hx hb dX4_readInto_35 rfl hl (by decide) rfl (fun ls hl => ?_)
    refine lv_iconst (v := 0) hx hb dX4_readInto_36 (by decide) ?_
    refine lv_istore_n (lv' := [(3, .int 0), (2, .int y_3.1), (0, .ref (Q 0)), (1, .ref (Z 0))]) hx hb dX4_readInto_37 rfl hl (by decide) rfl (fun ls hl => ?_)
    have L_38 : ∀ (n : Nat) (x3_38 : Int32) (x2_38 : Int32) (f_38 : Nat → Int32) (kv_38 : Nat → Nat → Int32) (d_place2_38 : Int32) (d_token2_38 : Int32) (d_value2_38 : Int32) (d_start2_38 : Int32) (d_fault2_38 : Int32) (d_num2_38 : Nat → Int32) (H : Heap) (locs : List Loc) (ls : Array Slot), 0 ≤ x3_38.toInt → x3_38.toInt ≤ 6 → (6 : Int) < x3_38.toInt + ((n : Nat) : Int) → pl_ok d_place2_38 → 0 ≤ (f_38 2).toInt → va_P D vwCl (landW Z cK f_38 kv_38 u_1.2 ++ (tpW U cB p_len p_bytes ++ (rdW Q U cI d_place2_38 d_token2_38 d_value2_38 d_start2_38 d_fault2_38 d_num2_38 ++ R))) H → va_D A (landW Z cK f_38 kv_38 u_1.2 ++ (tpW U cB p_len p_bytes ++ (rdW Q U cI d_place2_38 d_token2_38 d_value2_38 d_start2_38 d_fault2_38 d_num2_38 ++ R))) → va_S A s.heap H locs → lv_has ls 4 [(3, .int x3_38), (2, .int x2_38), (0, .ref (Q 0)), (1, .ref (Z 0))] → (∀ (u : Int32 × Int32 × (Nat → Int32) × (Nat → Nat → Int32) × Int32 × Int32 × Int32 × Int32 × Int32 × (Nat → Int32)) (H : Heap) (locs : List Loc) (ls : Array Slot), u = lX4_readInto_38 p_len p_bytes n x3_38 x2_38 f_38 kv_38 d_place2_38 d_token2_38 d_value2_38 d_start2_38 d_fault2_38 d_num2_38 → va_P D vwCl (landW Z cK u.2.2.1 u.2.2.2.1 u_1.2 ++ (tpW U cB p_len p_bytes ++ (rdW Q U cI u.2.2.2.2.1 u.2.2.2.2.2.1 u.2.2.2.2.2.2.1 u.2.2.2.2.2.2.2.1 u.2.2.2.2.2.2.2.2.1 u.2.2.2.2.2.2.2.2.2 ++ R))) H → va_D A (landW Z cK u.2.2.1 u.2.2.2.1 u_1.2 ++ (tpW U cB p_len p_bytes ++ (rdW Q U cI u.2.2.2.2.1 u.2.2.2.2.2.1 u.2.2.2.2.2.2.1 u.2.2.2.2.2.2.2.1 u.2.2.2.2.2.2.2.2.1 u.2.2.2.2.2.2.2.2.2 ++ R))) → va_S A s.heap H locs → lv_has ls 4 [] → W p l e (rmX 9) s m ([.ref (Q 0), .ref (Z 0)] : List Value).toArray below meth c H locs 0 0 Qm (F0 m 78 ls [])) → W p l e (rmX 9) s m ([.ref (Q 0), .ref (Z 0)] : List Value).toArray below meth c H locs 0 0 Qm (F0 m 38 ls []) := by
      intro n
      induction n with
      | zero =>
        intro x3_38 x2_38 f_38 kv_38 d_place2_38 d_token2_38 d_value2_38 d_start2_38 d_fault2_38 d_num2_38 H locs ls iv_38_0 iv_38_1 iv_38_2 iv_38_3 iv_38_4 hP hD hS hl kont_38
        exfalso; omega
      | succ n ih_38 =>
        intro x3_38 x2_38 f_38 kv_38 d_place2_38 d_token2_38 d_value2_38 d_start2_38 d_fault2_38 d_num2_38 H locs ls iv_38_0 iv_38_1 iv_38_2 iv_38_3 iv_38_4 hP hD hS hl kont_38
        refine lv_iload_n hx hb dX4_readInto_38 rfl (lv_at hl 1 rfl) ?_
        refine lv_if_eq (tgt := 78) hx hb dX4_readInto_39 (by decide) (fun c_7 => ?_) (fun c_7 => ?_)
        · have d_7 := i_eq rfl (show (0 : Int32).toInt = 0 from by decide) c_7
          exact kont_38 (x3_38, x2_38, f_38, kv_38, d_place2_38, d_token2_38, d_value2_38, d_start2_38, d_fault2_38, d_num2_38) H locs ls (show lX4_readInto_38 p_len p_bytes (n + 1) x3_38 x2_38 f_38 kv_38 d_place2_38 d_token2_38 d_value2_38 d_start2_38 d_fault2_38 d_num2_38 = (x3_38, x2_38, f_38, kv_38, d_place2_38, d_token2_38, d_value2_38, d_start2_38, d_fault2_38, d_num2_38) from ((if_pos c_7).trans rfl)).symm  hP hD hS (lv_sub hl [] rfl)
        · have d_7 := i_eqn rfl (show (0 : Int32).toInt = 0 from by decide) c_7
          refine lv_iload_n hx hb dX4_readInto_42 rfl (lv_at hl 0 rfl) ?_
          refine lv_iconst (v := 5) hx hb dX4_readInto_43 (by decide) ?_
          refine lv_icmp_gt (tgt := 78) hx hb dX4_readInto_44 (by decide) (fun c_8 => ?_) (fun c_8 => ?_)
          · have d_8 := i_lt (show (5 : Int32).toInt = 5 from by decide) rfl c_8
            exact kont_38 (x3_38, x2_38, f_38, kv_38, d_place2_38, d_token2_38, d_value2_38, d_start2_38, d_fault2_38, d_num2_38) H locs ls (show lX4_readInto_38 p_len p_bytes (n + 1) x3_38 x2_38 f_38 kv_38 d_place2_38 d_token2_38 d_value2_38 d_start2_38 d_fault2_38 d_num2_38 = (x3_38, x2_38, f_38, kv_38, d_place2_38, d_token2_38, d_value2_38, d_start2_38, d_fault2_38, d_num2_38) from ((if_neg c_7).trans ((if_pos c_8).trans rfl))).symm  hP hD hS (lv_sub hl [] rfl)
          · have d_8 := i_ltn (show (5 : Int32).toInt = 5 from by decide) rfl c_8
            refine lv_aload_n hx hb dX4_readInto_47 rfl (lv_at hl 2 rfl) ?_
            have hpm : List.Perm (landW Z cK f_38 kv_38 u_1.2 ++ (tpW U cB p_len p_bytes ++ (rdW Q U cI d_place2_38 d_token2_38 d_value2_38 d_start2_38 d_fault2_38 d_num2_38 ++ R))) (tpW U cB p_len p_bytes ++ (rdW Q U cI d_place2_38 d_token2_38 d_value2_38 d_start2_38 d_fault2_38 d_num2_38 ++ (landW Z cK f_38 kv_38 u_1.2 ++ R))) := (((List.Perm.append_left _ gp_swap).trans gp_swap).trans ((List.Perm.append_left _ gp_swap).trans gp_swap))
            have hP := gp_P hpm hP
            have hD := gp_D hpm hD
            refine mx_callV (As := []) (rest := []) ⟨hx, hb, hml, hown, hts⟩ (mtX4_scan l D cI cB cK cS U Q (landW Z cK f_38 kv_38 u_1.2 ++ R) p_len p_bytes d_place2_38 d_token2_38 d_value2_38 d_start2_38 d_fault2_38 d_num2_38 (by first | assumption | omega) (by first | assumption | omega)) (cwV 0 hts gX4_readInto_X4_scan rfl rfl rfl (by decide +kernel) ⟨Nat.le_of_ble_eq_true rfl, Nat.le_of_ble_eq_true rfl⟩) pF0_ok trivial hK hP hD hS hA 2 rfl rfl rfl rfl hl.1 rfl (Nat.le_of_ble_eq_true rfl) dX4_readInto_48 ⟨Nat.le_refl _, Nat.le_refl _⟩ (fun u_9 H locs eu_9 hP hD hS => ?_)
            refine W.eq (g2 := F0 m 51 ls []) rfl ?_
            have hP : va_P D vwCl (tpW U cB p_len p_bytes ++ (rdW Q U cI u_9.1 u_9.2.1 u_9.2.2.1 u_9.2.2.2 d_fault2_38 d_num2_38 ++ (landW Z cK f_38 kv_38 u_1.2 ++ R))) H := hP
            have hD : va_D A (tpW U cB p_len p_bytes ++ (rdW Q U cI u_9.1 u_9.2.1 u_9.2.2.1 u_9.2.2.2 d_fault2_38 d_num2_38 ++ (landW Z cK f_38 kv_38 u_1.2 ++ R))) := hD
            have hpm : List.Perm (tpW U cB p_len p_bytes ++ (rdW Q U cI u_9.1 u_9.2.1 u_9.2.2.1 u_9.2.2.2 d_fault2_38 d_num2_38 ++ (landW Z cK f_38 kv_38 u_1.2 ++ R))) (landW Z cK f_38 kv_38 u_1.2 ++ (tpW U cB p_len p_bytes ++ (rdW Q U cI u_9.1 u_9.2.1 u_9.2.2.1 u_9.2.2.2 d_fault2_38 d_num2_38 ++ R))) := ((gp_swap.trans gp_swap).trans ((List.Perm.append_left _ gp_swap).trans gp_swap))
            have hP := gp_P hpm hP
            have hD := gp_D hpm hD
            have hpl_u_9 := sX4_scan_ok (by assumption) (by assumption) eu_9
            refine lv_aload_n hx hb dX4_readInto_51 rfl (lv_at hl 2 rfl) ?_
            refine va_get (D := D) (ci := 4) (v := .int u_9.2.1) (C := RX4) (T := TX4) (N := 7) hx hb hts iX4 hown hK hP 10 rfl rfl 3 (by decide) k19 (fun _ h9 => h9) rfl dX4_readInto_52 ?_
            refine lv_if_eq (tgt := 70) hx hb dX4_readInto_55 (by decide) (fun c_10 => ?_) (fun c_10 => ?_)
            · have d_10 := i_eq rfl (show (0 : Int32).toInt = 0 from by decide) c_10
              refine lv_iconst (v := 0) hx hb dX4_readInto_70 (by decide) ?_
              refine lv_istore_n (lv' := [(2, .int 0), (3, .int x3_38), (0, .ref (Q 0)), (1, .ref (Z 0))]) hx hb dX4_readInto_71 rfl hl (by decide) rfl (fun ls hl => ?_)
              obtain ⟨x_11, ex_11⟩ : ∃ z : Int32, z = x3_38 + 1 := ⟨_, rfl⟩
              refine lv_iinc (v := x_11) (lv' := [(3, .int x_11), (2, .int 0), (0, .ref (Q 0)), (1, .ref (Z 0))]) hx hb dX4_readInto_72 hl (k := 1) rfl (by rw [ex_11]; rfl) (by decide) rfl (fun ls hl => ?_)
              refine lv_goto (tgt := 38) hx hb dX4_readInto_75 (by decide) ?_
              try have tx_11 : x_11.toInt = x3_38.toInt + 1 := i_inc ex_11 (by decide) (by omega) (by omega)
              refine ih_38 x_11 0 f_38 kv_38 u_9.1 u_9.2.1 u_9.2.2.1 u_9.2.2.2 d_fault2_38 d_num2_38 H locs ls (by first | omega | assumption) (by first | omega | assumption) (by first | omega | assumption) (by first | omega | assumption) (by first | omega | assumption) hP hD hS (lv_sub hl [0, 1, 2, 3] rfl) (fun u H locs ls eu  hP hD hS hl => ?_)
              exact kont_38 u H locs ls (eu.trans (show lX4_readInto_38 p_len p_bytes (n + 1) x3_38 x2_38 f_38 kv_38 d_place2_38 d_token2_38 d_value2_38 d_start2_38 d_fault2_38 d_num2_38 = lX4_readInto_38 p_len p_bytes n x_11 0 f_38 kv_38 u_9.1 u_9.2.1 u_9.2.2.1 u_9.2.2.2 d_fault2_38 d_num2_38 from ((if_neg c_7).trans ((if_neg c_8).trans (lt_eq eu_9 ((if_pos c_10).trans (lt_eq ex_11 rfl)))))).symm)  hP hD hS hl
            · have d_10 := i_eqn rfl (show (0 : Int32).toInt = 0 from by decide) c_10
              refine lv_aload_n hx hb dX4_readInto_58 rfl (lv_at hl 2 rfl) ?_
              refine lv_aload_n hx hb dX4_readInto_59 rfl (lv_at hl 3 rfl) ?_
              refine mx_callV (As := [.ref (Z 0)]) (rest := []) ⟨hx, hb, hml, hown, hts⟩ (mtX4_readKind l D cI cB cK cS t ks kb Z U Q R f_38 kv_38 u_1.2 p_len p_bytes u_9.1 u_9.2.1 u_9.2.2.1 u_9.2.2.2 d_fault2_38 d_num2_38 (by first | assumption | omega) (by first | assumption | omega) (by first | assumption | omega)) (cwV 1 hts gX4_readInto_X4_readKind rfl rfl rfl (by decide +kernel) ⟨Nat.le_of_ble_eq_true rfl, Nat.le_of_ble_eq_true rfl⟩) pFs_ok hF hK hP hD hS hA 10 rfl rfl rfl rfl hl.1 rfl (Nat.le_of_ble_eq_true rfl) dX4_readInto_60 ⟨Nat.le_refl _, Nat.le_refl _⟩ (fun u_12 H locs eu_12 hP hD hS => ?_)
              refine W.eq (g2 := F0 m 63 ls [.int u_12.1]) rfl ?_
              have hP : va_P D vwCl (landW Z cK u_12.2.1 u_12.2.2.1 u_1.2 ++ (tpW U cB p_len p_bytes ++ (rdW Q U cI u_12.2.2.2.1 u_12.2.2.2.2.1 u_12.2.2.2.2.2.1 u_12.2.2.2.2.2.2.1 u_12.2.2.2.2.2.2.2.1 u_12.2.2.2.2.2.2.2.2 ++ R))) H := hP
              have hD : va_D A (landW Z cK u_12.2.1 u_12.2.2.1 u_1.2 ++ (tpW U cB p_len p_bytes ++ (rdW Q U cI u_12.2.2.2.1 u_12.2.2.2.2.1 u_12.2.2.2.2.2.1 u_12.2.2.2.2.2.2.1 u_12.2.2.2.2.2.2.2.1 u_12.2.2.2.2.2.2.2.2 ++ R))) := hD
              obtain ⟨hpl_u_12, hkc_u_12⟩ := sX4_readKind_ok (by assumption) (by assumption) (by assumption) eu_12
              have J_13 : ∀ (y_13 : Int32) (H : Heap) (locs : List Loc) (ls : Array Slot), y_13 = (if u_12.1 = 0 then (0) else (1)) → va_P D vwCl (landW Z cK u_12.2.1 u_12.2.2.1 u_1.2 ++ (tpW U cB p_len p_bytes ++ (rdW Q U cI u_12.2.2.2.1 u_12.2.2.2.2.1 u_12.2.2.2.2.2.1 u_12.2.2.2.2.2.2.1 u_12.2.2.2.2.2.2.2.1 u_12.2.2.2.2.2.2.2.2 ++ R))) H → va_D A (landW Z cK u_12.2.1 u_12.2.2.1 u_1.2 ++ (tpW U cB p_len p_bytes ++ (rdW Q U cI u_12.2.2.2.1 u_12.2.2.2.2.1 u_12.2.2.2.2.2.1 u_12.2.2.2.2.2.2.1 u_12.2.2.2.2.2.2.2.1 u_12.2.2.2.2.2.2.2.2 ++ R))) → va_S A s.heap H locs → lv_has ls 4 [(3, .int x3_38), (0, .ref (Q 0)), (1, .ref (Z 0))] → W p l e (rmX 9) s m ([.ref (Q 0), .ref (Z 0)] : List Value).toArray below meth c H locs 0 0 Qm (F0 m 71 ls [.int y_13]) := by
                intro y_13 H locs ls ey_13 hP hD hS hl
                refine lv_istore_n (lv' := [(2, .int y_13), (3, .int x3_38), (0, .ref (Q 0)), (1, .ref (Z 0))]) hx hb dX4_readInto_71 rfl hl (by decide) rfl (fun ls hl => ?_)
                obtain ⟨x_15, ex_15⟩ : ∃ z : Int32, z = x3_38 + 1 := ⟨_, rfl⟩
                refine lv_iinc (v := x_15) (lv' := [(3, .int x_15), (2, .int y_13), (0, .ref (Q 0)), (1, .ref (Z 0))]) hx hb dX4_readInto_72 hl (k := 1) rfl (by rw [ex_15]; rfl) (by decide) rfl (fun ls hl => ?_)
                refine lv_goto (tgt := 38) hx hb dX4_readInto_75 (by decide) ?_
                try have tx_15 : x_15.toInt = x3_38.toInt + 1 := i_inc ex_15 (by decide) (by omega) (by omega)
                refine ih_38 x_15 y_13 u_12.2.1 u_12.2.2.1 u_12.2.2.2.1 u_12.2.2.2.2.1 u_12.2.2.2.2.2.1 u_12.2.2.2.2.2.2.1 u_12.2.2.2.2.2.2.2.1 u_12.2.2.2.2.2.2.2.2 H locs ls (by first | omega | assumption) (by first | omega | assumption) (by first | omega | assumption) (by first | omega | assumption) (by first | omega | assumption) hP hD hS (lv_sub hl [0, 1, 2, 3] rfl) (fun u H locs ls eu  hP hD hS hl => ?_)
                exact kont_38 u H locs ls (eu.trans (show lX4_readInto_38 p_len p_bytes (n + 1) x3_38 x2_38 f_38 kv_38 d_place2_38 d_token2_38 d_value2_38 d_start2_38 d_fault2_38 d_num2_38 = lX4_readInto_38 p_len p_bytes n x_15 y_13 u_12.2.1 u_12.2.2.1 u_12.2.2.2.1 u_12.2.2.2.2.1 u_12.2.2.2.2.2.1 u_12.2.2.2.2.2.2.1 u_12.2.2.2.2.2.2.2.1 u_12.2.2.2.2.2.2.2.2 from ((if_neg c_7).trans ((if_neg c_8).trans (lt_eq eu_9 ((if_neg c_10).trans (lt_eq eu_12 (lt_eq ey_13 (lt_eq ex_15 rfl)))))))).symm)  hP hD hS hl
              refine lv_if_eq (tgt := 70) hx hb dX4_readInto_63 (by decide) (fun c_14 => ?_) (fun c_14 => ?_)
              · have d_14 := i_eq rfl (show (0 : Int32).toInt = 0 from by decide) c_14
                refine lv_iconst (v := 0) hx hb dX4_readInto_70 (by decide) ?_
                exact J_13 0 H locs ls (Eq.symm ((if_pos c_14).trans rfl)) hP hD hS (lv_sub hl [0, 2, 3] rfl)
              · have d_14 := i_eqn rfl (show (0 : Int32).toInt = 0 from by decide) c_14
                refine lv_iconst (v := 1) hx hb dX4_readInto_66 (by decide) ?_
                refine lv_goto (tgt := 71) hx hb dX4_readInto_67 (by decide) ?_
                exact J_13 1 H locs ls (Eq.symm ((if_neg c_14).trans rfl)) hP hD hS (lv_sub hl [0, 2, 3] rfl)
    refine L_38 7 0 y_3.1 y_3.2.1 kv y_3.2.2.1 y_3.2.2.2.1 y_3.2.2.2.2.1 y_3.2.2.2.2.2.1 y_3.2.2.2.2.2.2.1 y_3.2.2.2.2.2.2.2 H locs ls (by first | decide | assumption) (by first | decide | assumption) (by first | decide | assumption) (by first | decide | assumption) (by first | decide | assumption) hP hD hS (lv_sub hl [0, 1, 2, 3] rfl) (fun u_16 H locs ls eu_16  hP hD hS hl => ?_)
    have hP : va_P D vwCl (landW Z cK u_16.2.2.1 u_16.2.2.2.1 u_1.2 ++ (tpW U cB p_len p_bytes ++ (rdW Q U cI u_16.2.2.2.2.1 u_16.2.2.2.2.2.1 u_16.2.2.2.2.2.2.1 u_16.2.2.2.2.2.2.2.1 u_16.2.2.2.2.2.2.2.2.1 u_16.2.2.2.2.2.2.2.2.2 ++ R))) H := hP
    have hD : va_D A (landW Z cK u_16.2.2.1 u_16.2.2.2.1 u_1.2 ++ (tpW U cB p_len p_bytes ++ (rdW Q U cI u_16.2.2.2.2.1 u_16.2.2.2.2.2.1 u_16.2.2.2.2.2.2.1 u_16.2.2.2.2.2.2.2.1 u_16.2.2.2.2.2.2.2.2.1 u_16.2.2.2.2.2.2.2.2.2 ++ R))) := hD
    rw [hQm]
    exact mx_vret (u0 := sX4_readInto f kv mv p_len p_bytes d_num) (rv := (fun _ => none)) (w1 := (fun u => landW Z cK u.1 u.2.1 u.2.2.1 ++ (tpW U cB p_len p_bytes ++ (rdW Q U cI u.2.2.2.1 u.2.2.2.2.1 u.2.2.2.2.2.1 u.2.2.2.2.2.2.1 u.2.2.2.2.2.2.2.1 u.2.2.2.2.2.2.2.2 ++ R)))) (u := (u_16.2.2.1, u_16.2.2.2.1, u_1.2, u_16.2.2.2.2.1, u_16.2.2.2.2.2.1, u_16.2.2.2.2.2.2.1, u_16.2.2.2.2.2.2.2.1, u_16.2.2.2.2.2.2.2.2.1, u_16.2.2.2.2.2.2.2.2.2)) hx hb hr hlocks hK hS (lt_eq eu_1 (lt_eq eu_2 (lt_eq ey_3 (lt_eq eu_16 rfl)))) hP hD rfl dX4_readInto_78
  refine lv_if_eq (tgt := 34) hx hb dX4_readInto_19 (by decide) (fun c_4 => ?_) (fun c_4 => ?_)
  · have d_4 := i_eq rfl (show (0 : Int32).toInt = 0 from by decide) c_4
    refine lv_iconst (v := 0) hx hb dX4_readInto_34 (by decide) ?_
    exact J_3 (0, u_2.2.1, u_2.2.2.1, u_2.2.2.2.1, u_2.2.2.2.2.1, u_2.2.2.2.2.2.1, u_2.2.2.2.2.2.2.1, u_2.2.2.2.2.2.2.2) H locs ls (Eq.symm ((if_pos c_4).trans rfl)) hP hD hS (lv_sub hl [0, 1] rfl)
  · have d_4 := i_eqn rfl (show (0 : Int32).toInt = 0 from by decide) c_4
    refine lv_aload_n hx hb dX4_readInto_22 rfl (lv_at hl 0 rfl) ?_
    refine lv_aload_n hx hb dX4_readInto_23 rfl (lv_at hl 1 rfl) ?_
    refine mx_callV (As := [.ref (Z 0)]) (rest := []) ⟨hx, hb, hml, hown, hts⟩ (mtX4_readStart l D cI cB cK cS t ks kb Z U Q R u_2.2.1 kv u_1.2 p_len p_bytes u_2.2.2.1 u_2.2.2.2.1 u_2.2.2.2.2.1 u_2.2.2.2.2.2.1 u_2.2.2.2.2.2.2.1 u_2.2.2.2.2.2.2.2 (by first | assumption | omega) (by first | assumption | omega) (by first | assumption | omega)) (cwV 1 hts gX4_readInto_X4_readStart rfl rfl rfl (by decide +kernel) ⟨Nat.le_of_ble_eq_true rfl, Nat.le_of_ble_eq_true rfl⟩) pFs_ok hF hK hP hD hS hA 10 rfl rfl rfl rfl hl.1 rfl (Nat.le_of_ble_eq_true rfl) dX4_readInto_24 ⟨Nat.le_refl _, Nat.le_refl _⟩ (fun u_5 H locs eu_5 hP hD hS => ?_)
    refine W.eq (g2 := F0 m 27 ls [.int u_5.1]) rfl ?_
    have hP : va_P D vwCl (landW Z cK u_5.2.1 kv u_1.2 ++ (tpW U cB p_len p_bytes ++ (rdW Q U cI u_5.2.2.1 u_5.2.2.2.1 u_5.2.2.2.2.1 u_5.2.2.2.2.2.1 u_5.2.2.2.2.2.2.1 u_5.2.2.2.2.2.2.2 ++ R))) H := hP
    have hD : va_D A (landW Z cK u_5.2.1 kv u_1.2 ++ (tpW U cB p_len p_bytes ++ (rdW Q U cI u_5.2.2.1 u_5.2.2.2.1 u_5.2.2.2.2.1 u_5.2.2.2.2.2.1 u_5.2.2.2.2.2.2.1 u_5.2.2.2.2.2.2.2 ++ R))) := hD
    obtain ⟨hpl_u_5, hkc_u_5⟩ := sX4_readStart_ok (by assumption) (by assumption) (by assumption) eu_5
    refine lv_if_eq (tgt := 34) hx hb dX4_readInto_27 (by decide) (fun c_6 => ?_) (fun c_6 => ?_)
    · have d_6 := i_eq rfl (show (0 : Int32).toInt = 0 from by decide) c_6
      refine lv_iconst (v := 0) hx hb dX4_readInto_34 (by decide) ?_
      exact J_3 (0, u_5.2.1, u_5.2.2.1, u_5.2.2.2.1, u_5.2.2.2.2.1, u_5.2.2.2.2.2.1, u_5.2.2.2.2.2.2.1, u_5.2.2.2.2.2.2.2) H locs ls (Eq.symm ((if_neg c_4).trans (lt_eq eu_5 ((if_pos c_6).trans rfl)))) hP hD hS (lv_sub hl [0, 1] rfl)
    · have d_6 := i_eqn rfl (show (0 : Int32).toInt = 0 from by decide) c_6
      refine lv_iconst (v := 1) hx hb dX4_readInto_30 (by decide) ?_
      refine lv_goto (tgt := 35) hx hb dX4_readInto_31 (by decide) ?_
      exact J_3 (1, u_5.2.1, u_5.2.2.1, u_5.2.2.2.1, u_5.2.2.2.2.1, u_5.2.2.2.2.2.1, u_5.2.2.2.2.2.2.1, u_5.2.2.2.2.2.2.2) H locs ls (Eq.symm ((if_neg c_4).trans (lt_eq eu_5 ((if_neg c_6).trans rfl)))) hP hD hS (lv_sub hl [0, 1] rfl)
def sX10_land (f : Nat → Int32) (kv : Nat → Nat → Int32) (mv : Nat → Int32) (p_len : Int32) (p_bytes : Nat → Int32) (d_num : Nat → Int32) (g_landed : Int32) (g_fault : Int32) : Int32 × (Nat → Int32) × (Nat → Nat → Int32) × (Nat → Int32) × (Int32) × (Int32) × (Int32) × (Int32) × (Int32) × (Int32) × (Nat → Int32) × (Int32) × (Int32) := lt (sX4_readInto f kv mv p_len p_bytes d_num) (fun u_1 : (Nat → Int32) × (Nat → Nat → Int32) × (Nat → Int32) × (Int32) × (Int32) × (Int32) × (Int32) × (Int32) × (Nat → Int32) => if u_1.2.2.2.2.2.2.2.1 = 0 then (((u_1.1 2), u_1.1, u_1.2.1, u_1.2.2.1, 0, u_1.2.2.2.1, u_1.2.2.2.2.1, u_1.2.2.2.2.2.1, u_1.2.2.2.2.2.2.1, u_1.2.2.2.2.2.2.2.1, u_1.2.2.2.2.2.2.2.2, 1, g_fault)) else (((-1000100) - u_1.2.2.2.2.2.2.1, u_1.1, u_1.2.1, u_1.2.2.1, 0, u_1.2.2.2.1, u_1.2.2.2.2.1, u_1.2.2.2.2.2.1, u_1.2.2.2.2.2.2.1, u_1.2.2.2.2.2.2.2.1, u_1.2.2.2.2.2.2.2.2, g_landed, u_1.2.2.2.2.2.2.2.1)))
set_option maxHeartbeats 4000000 in
set_option maxRecDepth 100000 in
theorem mtX10_land (l : Launch) (D : va_G) (cI cB cK cS : ClassId) (t ks kb : Nat → Nat) (B S U Q V K Z2 Z3 : Nat → Nat) (R : va_W) (f : Nat → Int32) (kv : Nat → Nat → Int32) (mv : Nat → Int32) (p_len : Int32) (p_bytes : Nat → Int32) (d_place : Int32) (d_token : Int32) (d_value : Int32) (d_start : Int32) (d_fault : Int32) (d_num : Nat → Int32) (f2 : Nat → Int32) (kv2 : Nat → Nat → Int32) (mv2 : Nat → Int32) (g_landed : Int32) (g_fault : Int32) (g_find : Int32) (hl1 : p_len.toInt ≤ 400) : MX l yX10_land wsX10_land (rmX 10) D (tyX cI cB cK cS) (pFs t ks kb) (landW Z3 cK f kv mv ++ (tpW U cB p_len p_bytes ++ (rdW Q U cI d_place d_token d_value d_start d_fault d_num ++ (landW Z2 cK f2 kv2 mv2 ++ (pigW B S U Q V K Z2 Z3 g_landed g_fault g_find ++ R))))) [.ref (B 0)] (sX10_land f kv mv p_len p_bytes d_num g_landed g_fault) (fun u => some (.int u.1)) (fun u => if u.2.2.2.2.2.2.2.2.2.1 = 0 then landW Z3 cK u.2.1 u.2.2.1 u.2.2.2.1 ++ (tpW U cB u.2.2.2.2.1 p_bytes ++ (rdW Q U cI u.2.2.2.2.2.1 u.2.2.2.2.2.2.1 u.2.2.2.2.2.2.2.1 u.2.2.2.2.2.2.2.2.1 u.2.2.2.2.2.2.2.2.2.1 u.2.2.2.2.2.2.2.2.2.2.1 ++ (landW Z2 cK f2 kv2 mv2 ++ (pigW B S U Q V K Z3 Z2 u.2.2.2.2.2.2.2.2.2.2.2.1 u.2.2.2.2.2.2.2.2.2.2.2.2 g_find ++ R)))) else landW Z3 cK u.2.1 u.2.2.1 u.2.2.2.1 ++ (tpW U cB u.2.2.2.2.1 p_bytes ++ (rdW Q U cI u.2.2.2.2.2.1 u.2.2.2.2.2.2.1 u.2.2.2.2.2.2.2.1 u.2.2.2.2.2.2.2.2.1 u.2.2.2.2.2.2.2.2.2.1 u.2.2.2.2.2.2.2.2.2.2.1 ++ (landW Z2 cK f2 kv2 mv2 ++ (pigW B S U Q V K Z2 Z3 u.2.2.2.2.2.2.2.2.2.2.2.1 u.2.2.2.2.2.2.2.2.2.2.2.2 g_find ++ R))))) := by
  refine mx_intro (cc := cX10_land) (maxL := 2) (ret := (some .int)) (by decide) rfl (Nat.le_of_ble_eq_true rfl) ?_
  intro p e s m below meth c A ls H locs Qm hQm hx hb hr hml hts hown hlocks hA hS hP hK hD hF hl
  have hown : s.vm.findClass RX10 = some m.cls := hown
  have hl : lv_has ls 2 [(0, .ref (B 0))] := hl
  have k27 := hts (.fieldLink RX10 27 "PigRounds" "reader" "LPigRounds$Reader;") (by decide +kernel)
  have k52 := hts (.fieldLink RX10 52 "PigRounds" "spare" "LPigRounds$Land;") (by decide +kernel)
  have k18 := hts (.fieldLink RX10 18 "PigRounds" "tape" "LPigRounds$Tape;") (by decide +kernel)
  have k117 := hts (.fieldLink RX10 117 "PigRounds$Tape" "length" "I") (by decide +kernel)
  have k124 := hts (.fieldLink RX10 124 "PigRounds$Reader" "fault" "I") (by decide +kernel)
  have k48 := hts (.fieldLink RX10 48 "PigRounds" "land" "LPigRounds$Land;") (by decide +kernel)
  have k55 := hts (.fieldLink RX10 55 "PigRounds" "landed" "Z") (by decide +kernel)
  have k131 := hts (.fieldLink RX10 131 "PigRounds$Land" "kindCount" "I") (by decide +kernel)
  have k59 := hts (.fieldLink RX10 59 "PigRounds" "latestFault" "I") (by decide +kernel)
  have k127 := hts (.constant RX10 127 (-1000100)) (by decide +kernel)
  have k128 := hts (.fieldLink RX10 128 "PigRounds$Reader" "start" "I") (by decide +kernel)
  have iX10 : ∀ w ∈ u_ws RX10 TX10 10, w ∈ wsX10_land := by decide +kernel
  have iX2 : ∀ w ∈ u_ws RX2 TX2 12, w ∈ wsX10_land := by decide +kernel
  have iX4 : ∀ w ∈ u_ws RX4 TX4 7, w ∈ wsX10_land := by decide +kernel
  have iX7 : ∀ w ∈ u_ws RX7 TX7 2, w ∈ wsX10_land := by decide +kernel
  refine lv_aload_n hx hb dX10_land_0 rfl (lv_at hl 0 rfl) ?_
  refine va_get (D := D) (ci := 8) (v := .ref (Q 0)) (C := RX10) (T := TX10) (N := 10) hx hb hts iX10 hown hK hP 20 rfl rfl 2 (by decide) k27 (fun _ h9 => h9) rfl dX10_land_1 ?_
  refine lv_aload_n hx hb dX10_land_4 rfl (lv_at hl 0 rfl) ?_
  refine va_get (D := D) (ci := 8) (v := .ref (Z3 0)) (C := RX10) (T := TX10) (N := 10) hx hb hts iX10 hown hK hP 20 rfl rfl 6 (by decide) k52 (fun _ h9 => h9) rfl dX10_land_5 ?_
  refine mx_callV (As := [.ref (Z3 0)]) (rest := []) ⟨hx, hb, hml, hown, hts⟩ (mtX4_readInto l D cI cB cK cS t ks kb Z3 U Q (landW Z2 cK f2 kv2 mv2 ++ (pigW B S U Q V K Z2 Z3 g_landed g_fault g_find ++ R)) f kv mv p_len p_bytes d_place d_token d_value d_start d_fault d_num (by first | assumption | omega)) (cwV 1 hts gX10_land_X4_readInto rfl rfl rfl (by decide +kernel) ⟨Nat.le_of_ble_eq_true rfl, Nat.le_of_ble_eq_true rfl⟩) pFs_ok hF hK hP hD hS hA 10 rfl rfl rfl rfl hl.1 rfl (Nat.le_of_ble_eq_true rfl) dX10_land_8 ⟨Nat.le_refl _, Nat.le_refl _⟩ (fun u_1 H locs eu_1 hP hD hS => ?_)
  refine W.eq (g2 := F0 m 11 ls []) rfl ?_
  have hP : va_P D vwCl (landW Z3 cK u_1.1 u_1.2.1 u_1.2.2.1 ++ (tpW U cB p_len p_bytes ++ (rdW Q U cI u_1.2.2.2.1 u_1.2.2.2.2.1 u_1.2.2.2.2.2.1 u_1.2.2.2.2.2.2.1 u_1.2.2.2.2.2.2.2.1 u_1.2.2.2.2.2.2.2.2 ++ (landW Z2 cK f2 kv2 mv2 ++ (pigW B S U Q V K Z2 Z3 g_landed g_fault g_find ++ R))))) H := hP
  have hD : va_D A (landW Z3 cK u_1.1 u_1.2.1 u_1.2.2.1 ++ (tpW U cB p_len p_bytes ++ (rdW Q U cI u_1.2.2.2.1 u_1.2.2.2.2.1 u_1.2.2.2.2.2.1 u_1.2.2.2.2.2.2.1 u_1.2.2.2.2.2.2.2.1 u_1.2.2.2.2.2.2.2.2 ++ (landW Z2 cK f2 kv2 mv2 ++ (pigW B S U Q V K Z2 Z3 g_landed g_fault g_find ++ R))))) := hD
  refine lv_aload_n hx hb dX10_land_11 rfl (lv_at hl 0 rfl) ?_
  refine va_get (D := D) (ci := 8) (v := .ref (U 0)) (C := RX10) (T := TX10) (N := 10) hx hb hts iX10 hown hK hP 20 rfl rfl 1 (by decide) k18 (fun _ h9 => h9) rfl dX10_land_12 ?_
  refine lv_iconst (v := 0) hx hb dX10_land_15 (by decide) ?_
  refine va_put (D := D) (ci := 6) (v := .int 0) (ty := .int) (C := RX7) (T := TX7) (N := 2) hx hb hts iX7 tyX7 tyX7_ok nmX7 hown hK hP hD hS 8 rfl rfl 1 (by decide) k117 (fun _ h9 => h9) rfl (by decide +kernel) rfl rfl (Nat.le_of_ble_eq_true rfl) dX10_land_16 (fun H locs hP hD hS => ?_)
  have hP : va_P D vwCl (landW Z3 cK u_1.1 u_1.2.1 u_1.2.2.1 ++ (tpW U cB 0 p_bytes ++ (rdW Q U cI u_1.2.2.2.1 u_1.2.2.2.2.1 u_1.2.2.2.2.2.1 u_1.2.2.2.2.2.2.1 u_1.2.2.2.2.2.2.2.1 u_1.2.2.2.2.2.2.2.2 ++ (landW Z2 cK f2 kv2 mv2 ++ (pigW B S U Q V K Z2 Z3 g_landed g_fault g_find ++ R))))) H := hP
  have hD : va_D A (landW Z3 cK u_1.1 u_1.2.1 u_1.2.2.1 ++ (tpW U cB 0 p_bytes ++ (rdW Q U cI u_1.2.2.2.1 u_1.2.2.2.2.1 u_1.2.2.2.2.2.1 u_1.2.2.2.2.2.2.1 u_1.2.2.2.2.2.2.2.1 u_1.2.2.2.2.2.2.2.2 ++ (landW Z2 cK f2 kv2 mv2 ++ (pigW B S U Q V K Z2 Z3 g_landed g_fault g_find ++ R))))) := hD
  refine lv_aload_n hx hb dX10_land_19 rfl (lv_at hl 0 rfl) ?_
  refine va_get (D := D) (ci := 8) (v := .ref (Q 0)) (C := RX10) (T := TX10) (N := 10) hx hb hts iX10 hown hK hP 20 rfl rfl 2 (by decide) k27 (fun _ h9 => h9) rfl dX10_land_20 ?_
  refine va_get (D := D) (ci := 4) (v := .int u_1.2.2.2.2.2.2.2.1) (C := RX4) (T := TX4) (N := 7) hx hb hts iX4 hown hK hP 10 rfl rfl 6 (by decide) k124 (fun _ h9 => h9) rfl dX10_land_23 ?_
  refine lv_if_eq (tgt := 51) hx hb dX10_land_26 (by decide) (fun c_2 => ?_) (fun c_2 => ?_)
  · refine lv_aload_n hx hb dX10_land_51 rfl (lv_at hl 0 rfl) ?_
    refine va_get (D := D) (ci := 8) (v := .ref (Z2 0)) (C := RX10) (T := TX10) (N := 10) hx hb hts iX10 hown hK hP 20 rfl rfl 5 (by decide) k48 (fun _ h9 => h9) rfl dX10_land_52 ?_
    refine lv_astore_n (lv' := [(1, .ref (Z2 0)), (0, .ref (B 0))]) hx hb dX10_land_55 rfl hl (by decide) rfl (fun ls hl => ?_)
    refine lv_aload_n hx hb dX10_land_56 rfl (lv_at hl 1 rfl) ?_
    refine lv_aload_n hx hb dX10_land_57 rfl (lv_at hl 1 rfl) ?_
    refine va_get (D := D) (ci := 8) (v := .ref (Z3 0)) (C := RX10) (T := TX10) (N := 10) hx hb hts iX10 hown hK hP 20 rfl rfl 6 (by decide) k52 (fun _ h9 => h9) rfl dX10_land_58 ?_
    refine va_put (D := D) (ci := 8) (v := .ref (Z3 0)) (ty := .object "PigRounds$Land") (C := RX10) (T := TX10) (N := 10) hx hb hts iX10 tyX10 tyX10_ok nmX10 hown hK hP hD hS 20 rfl rfl 5 (by decide) k48 (fun _ h9 => h9) rfl (by decide +kernel) rfl rfl (Nat.le_of_ble_eq_true rfl) dX10_land_61 (fun H locs hP hD hS => ?_)
    have hP : va_P D vwCl (landW Z3 cK u_1.1 u_1.2.1 u_1.2.2.1 ++ (tpW U cB 0 p_bytes ++ (rdW Q U cI u_1.2.2.2.1 u_1.2.2.2.2.1 u_1.2.2.2.2.2.1 u_1.2.2.2.2.2.2.1 u_1.2.2.2.2.2.2.2.1 u_1.2.2.2.2.2.2.2.2 ++ (landW Z2 cK f2 kv2 mv2 ++ (pigW B S U Q V K Z3 Z3 g_landed g_fault g_find ++ R))))) H := hP
    have hD : va_D A (landW Z3 cK u_1.1 u_1.2.1 u_1.2.2.1 ++ (tpW U cB 0 p_bytes ++ (rdW Q U cI u_1.2.2.2.1 u_1.2.2.2.2.1 u_1.2.2.2.2.2.1 u_1.2.2.2.2.2.2.1 u_1.2.2.2.2.2.2.2.1 u_1.2.2.2.2.2.2.2.2 ++ (landW Z2 cK f2 kv2 mv2 ++ (pigW B S U Q V K Z3 Z3 g_landed g_fault g_find ++ R))))) := hD
    refine lv_aload_n hx hb dX10_land_64 rfl (lv_at hl 1 rfl) ?_
    refine lv_aload_n hx hb dX10_land_65 rfl (lv_at hl 0 rfl) ?_
    refine va_put (D := D) (ci := 8) (v := .ref (Z2 0)) (ty := .object "PigRounds$Land") (C := RX10) (T := TX10) (N := 10) hx hb hts iX10 tyX10 tyX10_ok nmX10 hown hK hP hD hS 20 rfl rfl 6 (by decide) k52 (fun _ h9 => h9) rfl (by decide +kernel) rfl rfl (Nat.le_of_ble_eq_true rfl) dX10_land_66 (fun H locs hP hD hS => ?_)
    have hP : va_P D vwCl (landW Z3 cK u_1.1 u_1.2.1 u_1.2.2.1 ++ (tpW U cB 0 p_bytes ++ (rdW Q U cI u_1.2.2.2.1 u_1.2.2.2.2.1 u_1.2.2.2.2.2.1 u_1.2.2.2.2.2.2.1 u_1.2.2.2.2.2.2.2.1 u_1.2.2.2.2.2.2.2.2 ++ (landW Z2 cK f2 kv2 mv2 ++ (pigW B S U Q V K Z3 Z2 g_landed g_fault g_find ++ R))))) H := hP
    have hD : va_D A (landW Z3 cK u_1.1 u_1.2.1 u_1.2.2.1 ++ (tpW U cB 0 p_bytes ++ (rdW Q U cI u_1.2.2.2.1 u_1.2.2.2.2.1 u_1.2.2.2.2.2.1 u_1.2.2.2.2.2.2.1 u_1.2.2.2.2.2.2.2.1 u_1.2.2.2.2.2.2.2.2 ++ (landW Z2 cK f2 kv2 mv2 ++ (pigW B S U Q V K Z3 Z2 g_landed g_fault g_find ++ R))))) := hD
    refine lv_aload_n hx hb dX10_land_69 rfl (lv_at hl 1 rfl) ?_
    refine lv_iconst (v := 1) hx hb dX10_land_70 (by decide) ?_
    refine va_put (D := D) (ci := 8) (v := .int 1) (ty := .boolean) (C := RX10) (T := TX10) (N := 10) hx hb hts iX10 tyX10 tyX10_ok nmX10 hown hK hP hD hS 20 rfl rfl 7 (by decide) k55 (fun _ h9 => h9) rfl (by decide +kernel) rfl rfl (Nat.le_of_ble_eq_true rfl) dX10_land_71 (fun H locs hP hD hS => ?_)
    have hP : va_P D vwCl (landW Z3 cK u_1.1 u_1.2.1 u_1.2.2.1 ++ (tpW U cB 0 p_bytes ++ (rdW Q U cI u_1.2.2.2.1 u_1.2.2.2.2.1 u_1.2.2.2.2.2.1 u_1.2.2.2.2.2.2.1 u_1.2.2.2.2.2.2.2.1 u_1.2.2.2.2.2.2.2.2 ++ (landW Z2 cK f2 kv2 mv2 ++ (pigW B S U Q V K Z3 Z2 1 g_fault g_find ++ R))))) H := hP
    have hD : va_D A (landW Z3 cK u_1.1 u_1.2.1 u_1.2.2.1 ++ (tpW U cB 0 p_bytes ++ (rdW Q U cI u_1.2.2.2.1 u_1.2.2.2.2.1 u_1.2.2.2.2.2.1 u_1.2.2.2.2.2.2.1 u_1.2.2.2.2.2.2.2.1 u_1.2.2.2.2.2.2.2.2 ++ (landW Z2 cK f2 kv2 mv2 ++ (pigW B S U Q V K Z3 Z2 1 g_fault g_find ++ R))))) := hD
    refine lv_aload_n hx hb dX10_land_74 rfl (lv_at hl 1 rfl) ?_
    refine va_get (D := D) (ci := 8) (v := .ref (Z3 0)) (C := RX10) (T := TX10) (N := 10) hx hb hts iX10 hown hK hP 20 rfl rfl 5 (by decide) k48 (fun _ h9 => h9) rfl dX10_land_75 ?_
    refine va_get (D := D) (ci := 2) (v := .int (u_1.1 2)) (C := RX2) (T := TX2) (N := 12) hx hb hts iX2 hown hK hP 5 rfl rfl 2 (by decide) k131 (fun _ h9 => h9) rfl dX10_land_78 ?_
    rw [hQm]
    exact mx_iret (u0 := sX10_land f kv mv p_len p_bytes d_num g_landed g_fault) (rv := (fun u => some (.int u.1))) (w1 := (fun u => if u.2.2.2.2.2.2.2.2.2.1 = 0 then landW Z3 cK u.2.1 u.2.2.1 u.2.2.2.1 ++ (tpW U cB u.2.2.2.2.1 p_bytes ++ (rdW Q U cI u.2.2.2.2.2.1 u.2.2.2.2.2.2.1 u.2.2.2.2.2.2.2.1 u.2.2.2.2.2.2.2.2.1 u.2.2.2.2.2.2.2.2.2.1 u.2.2.2.2.2.2.2.2.2.2.1 ++ (landW Z2 cK f2 kv2 mv2 ++ (pigW B S U Q V K Z3 Z2 u.2.2.2.2.2.2.2.2.2.2.2.1 u.2.2.2.2.2.2.2.2.2.2.2.2 g_find ++ R)))) else landW Z3 cK u.2.1 u.2.2.1 u.2.2.2.1 ++ (tpW U cB u.2.2.2.2.1 p_bytes ++ (rdW Q U cI u.2.2.2.2.2.1 u.2.2.2.2.2.2.1 u.2.2.2.2.2.2.2.1 u.2.2.2.2.2.2.2.2.1 u.2.2.2.2.2.2.2.2.2.1 u.2.2.2.2.2.2.2.2.2.2.1 ++ (landW Z2 cK f2 kv2 mv2 ++ (pigW B S U Q V K Z2 Z3 u.2.2.2.2.2.2.2.2.2.2.2.1 u.2.2.2.2.2.2.2.2.2.2.2.2 g_find ++ R)))))) (u := ((u_1.1 2), u_1.1, u_1.2.1, u_1.2.2.1, 0, u_1.2.2.2.1, u_1.2.2.2.2.1, u_1.2.2.2.2.2.1, u_1.2.2.2.2.2.2.1, u_1.2.2.2.2.2.2.2.1, u_1.2.2.2.2.2.2.2.2, 1, g_fault)) hx hb hr hlocks hK hS (lt_eq eu_1 ((if_pos c_2).trans rfl)) (Eq.mpr (congrArg (fun w9 => va_P D vwCl w9 H) (if_pos c_2)) hP) (Eq.mpr (congrArg (fun w9 => va_D A w9) (if_pos c_2)) hD) rfl dX10_land_81
  · refine lv_aload_n hx hb dX10_land_29 rfl (lv_at hl 0 rfl) ?_
    refine lv_aload_n hx hb dX10_land_30 rfl (lv_at hl 0 rfl) ?_
    refine va_get (D := D) (ci := 8) (v := .ref (Q 0)) (C := RX10) (T := TX10) (N := 10) hx hb hts iX10 hown hK hP 20 rfl rfl 2 (by decide) k27 (fun _ h9 => h9) rfl dX10_land_31 ?_
    refine va_get (D := D) (ci := 4) (v := .int u_1.2.2.2.2.2.2.2.1) (C := RX4) (T := TX4) (N := 7) hx hb hts iX4 hown hK hP 10 rfl rfl 6 (by decide) k124 (fun _ h9 => h9) rfl dX10_land_34 ?_
    refine va_put (D := D) (ci := 8) (v := .int u_1.2.2.2.2.2.2.2.1) (ty := .int) (C := RX10) (T := TX10) (N := 10) hx hb hts iX10 tyX10 tyX10_ok nmX10 hown hK hP hD hS 20 rfl rfl 8 (by decide) k59 (fun _ h9 => h9) rfl (by decide +kernel) rfl rfl (Nat.le_of_ble_eq_true rfl) dX10_land_37 (fun H locs hP hD hS => ?_)
    have hP : va_P D vwCl (landW Z3 cK u_1.1 u_1.2.1 u_1.2.2.1 ++ (tpW U cB 0 p_bytes ++ (rdW Q U cI u_1.2.2.2.1 u_1.2.2.2.2.1 u_1.2.2.2.2.2.1 u_1.2.2.2.2.2.2.1 u_1.2.2.2.2.2.2.2.1 u_1.2.2.2.2.2.2.2.2 ++ (landW Z2 cK f2 kv2 mv2 ++ (pigW B S U Q V K Z2 Z3 g_landed u_1.2.2.2.2.2.2.2.1 g_find ++ R))))) H := hP
    have hD : va_D A (landW Z3 cK u_1.1 u_1.2.1 u_1.2.2.1 ++ (tpW U cB 0 p_bytes ++ (rdW Q U cI u_1.2.2.2.1 u_1.2.2.2.2.1 u_1.2.2.2.2.2.1 u_1.2.2.2.2.2.2.1 u_1.2.2.2.2.2.2.2.1 u_1.2.2.2.2.2.2.2.2 ++ (landW Z2 cK f2 kv2 mv2 ++ (pigW B S U Q V K Z2 Z3 g_landed u_1.2.2.2.2.2.2.2.1 g_find ++ R))))) := hD
    refine lv_ldc (v := (-1000100)) hx hb hown k127 dX10_land_40 ?_
    refine lv_aload_n hx hb dX10_land_42 rfl (lv_at hl 0 rfl) ?_
    refine va_get (D := D) (ci := 8) (v := .ref (Q 0)) (C := RX10) (T := TX10) (N := 10) hx hb hts iX10 hown hK hP 20 rfl rfl 2 (by decide) k27 (fun _ h9 => h9) rfl dX10_land_43 ?_
    refine va_get (D := D) (ci := 4) (v := .int u_1.2.2.2.2.2.2.1) (C := RX4) (T := TX4) (N := 7) hx hb hts iX4 hown hK hP 10 rfl rfl 5 (by decide) k128 (fun _ h9 => h9) rfl dX10_land_46 ?_
    refine lv_isub hx hb dX10_land_49 ?_
    rw [hQm]
    exact mx_iret (u0 := sX10_land f kv mv p_len p_bytes d_num g_landed g_fault) (rv := (fun u => some (.int u.1))) (w1 := (fun u => if u.2.2.2.2.2.2.2.2.2.1 = 0 then landW Z3 cK u.2.1 u.2.2.1 u.2.2.2.1 ++ (tpW U cB u.2.2.2.2.1 p_bytes ++ (rdW Q U cI u.2.2.2.2.2.1 u.2.2.2.2.2.2.1 u.2.2.2.2.2.2.2.1 u.2.2.2.2.2.2.2.2.1 u.2.2.2.2.2.2.2.2.2.1 u.2.2.2.2.2.2.2.2.2.2.1 ++ (landW Z2 cK f2 kv2 mv2 ++ (pigW B S U Q V K Z3 Z2 u.2.2.2.2.2.2.2.2.2.2.2.1 u.2.2.2.2.2.2.2.2.2.2.2.2 g_find ++ R)))) else landW Z3 cK u.2.1 u.2.2.1 u.2.2.2.1 ++ (tpW U cB u.2.2.2.2.1 p_bytes ++ (rdW Q U cI u.2.2.2.2.2.1 u.2.2.2.2.2.2.1 u.2.2.2.2.2.2.2.1 u.2.2.2.2.2.2.2.2.1 u.2.2.2.2.2.2.2.2.2.1 u.2.2.2.2.2.2.2.2.2.2.1 ++ (landW Z2 cK f2 kv2 mv2 ++ (pigW B S U Q V K Z2 Z3 u.2.2.2.2.2.2.2.2.2.2.2.1 u.2.2.2.2.2.2.2.2.2.2.2.2 g_find ++ R)))))) (u := ((-1000100) - u_1.2.2.2.2.2.2.1, u_1.1, u_1.2.1, u_1.2.2.1, 0, u_1.2.2.2.1, u_1.2.2.2.2.1, u_1.2.2.2.2.2.1, u_1.2.2.2.2.2.2.1, u_1.2.2.2.2.2.2.2.1, u_1.2.2.2.2.2.2.2.2, g_landed, u_1.2.2.2.2.2.2.2.1)) hx hb hr hlocks hK hS (lt_eq eu_1 ((if_neg c_2).trans rfl)) (Eq.mpr (congrArg (fun w9 => va_P D vwCl w9 H) (if_neg c_2)) hP) (Eq.mpr (congrArg (fun w9 => va_D A w9) (if_neg c_2)) hD) rfl dX10_land_50
