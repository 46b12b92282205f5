/-! what holds before every call of the law -/
def INV (k9 : Nat) (f2 : Nat → Int32) (kv2 : Nat → Nat → Int32) (mv2 : Nat → Int32) (kv3 : Nat → Nat → Int32) (sv : Nat → Nat → Int32) (si : Nat → Nat → Int32) (p_len : Int32) (p_bytes : Nat → Int32) (a_cnt : Int32) (a_trace : Nat → Int32) (g_landed : Int32) (g_fault : Int32) (g_find : Int32) (m_status : Int32) (m_isThere : Int32) (m_kinds : Int32) (m_print : Int32) (m_low : Int32) (m_high : Int32) (m_lot : Int32) (m_taped : Int32) (m_latest : Int32) (m_cursor : Int32) (m_from : Int32) (m_till : Int32) (m_traced : Int32) (r_lane : Nat → Int32) (r_many : Nat → Int32) (r_item : Nat → Int32) (r_market : Nat → Int32) (r_of : Nat → Int32) (r_state : Nat → Int32) (r_tape : Nat → Int32) (r_trace : Nat → Int32) : Prop :=
  (∃ Y9 : Nat, Y9 ≤ 100 * k9 ∧ LI g_landed m_kinds Y9 m_print m_low m_high m_lot r_market r_of r_state f2 kv2 mv2) ∧ g_landed = m_isThere ∧ SR sv si r_lane r_many r_item ∧ TR p_len m_taped p_bytes r_tape ∧ AT a_cnt m_traced a_trace r_trace ∧ g_fault = m_latest ∧ g_find = m_status ∧ (∀ j, j < 5 → kv3 j 7 = 0 ∨ kv3 j 7 = 1) ∧ rd_ok m_cursor m_from m_till
section
variable {Y : Nat} {g kinds print low high lot : Int32} {market of state f : Nat → Int32} {kv : Nat → Nat → Int32} {mv : Nat → Int32}
theorem LI.h0 (h : LI g kinds Y print low high lot market of state f kv mv) : 0 ≤ kinds.toInt := by
  obtain ⟨K, hK, -, e, -⟩ := h.kd
  rw [e, pu_toInt (by omega)]; omega
theorem LI.h5 (h : LI g kinds Y print low high lot market of state f kv mv) : kinds.toInt ≤ 5 := by
  obtain ⟨K, hK, -, e, -⟩ := h.kd
  rw [e, pu_toInt (by omega)]; omega
theorem LD.mk1 {K : Nat} (h : LD K Y print low high lot market of state f kv mv) : ¬ market 1 = 0 := by
  obtain ⟨d, h1, h2, h3⟩ := h.bq
  rw [h3]
  exact fun q => by have := (pu_inj (b := 0) (by omega) (by omega)).mp q; omega
theorem LI.hkt (h : LI g kinds Y print low high lot market of state f kv mv) : 0 < kinds.toInt → ¬ market 1 = 0 := by
  obtain ⟨K, hK, -, e, hd⟩ := h.kd
  intro h0
  rw [e, pu_toInt (by omega)] at h0
  exact (hd (by omega)).mk1
theorem LI.hth (h : LI g kinds Y print low high lot market of state f kv mv) : ¬ g = 0 → ¬ market 1 = 0 := by
  intro h0
  obtain ⟨-, ⟨h1, -⟩ | ⟨-, K, -, h3⟩⟩ := h
  · exact absurd h1 h0
  · exact h3.mk1
theorem LI.hby (h : LI g kinds Y print low high lot market of state f kv mv) : ∀ k : Int32, 0 ≤ k.toInt → k.toInt < kinds.toInt → sX11_told k 0 of = 2 → ¬ sX11_told k 1 of = 0 := by
  obtain ⟨K, hK, -, e, hd⟩ := h.kd
  intro k h0 h1
  rw [e, pu_toInt (by omega)] at h1
  obtain ⟨j, hj, rfl⟩ := pu_ex (x := k) (b := 5) h0 (by omega)
  rw [pu_toInt (by omega)] at h1
  have hd' := hd (by omega)
  rw [told_eq (w := 0) (c := 0) rfl (by omega) (by omega), told_eq (w := 1) (c := 1) rfl (by omega) (by omega)]
  intro h2
  rw [show 6 * j + 0 = 6 * j from rfl] at h2
  rcases hd'.kw j (by omega) with q | ⟨q, w | w | w⟩ | ⟨q, -⟩ | q | q | q
  · rw [q] at h2; exact absurd h2 (by decide)
  · rw [w]; decide
  · rw [w]; decide
  · rw [w]; decide
  · rw [q] at h2; exact absurd h2 (by decide)
  · rw [q] at h2; exact absurd h2 (by decide)
  · rw [q] at h2; exact absurd h2 (by decide)
  · rw [q] at h2; exact absurd h2 (by decide)
end
theorem TR.hb {pl tp : Int32} {pb rt : Nat → Int32} (h : TR pl tp pb rt) : (0 ≤ pl.toInt ∧ pl.toInt ≤ 400) ∧ 0 ≤ tp.toInt ∧ tp.toInt ≤ 400 := by
  obtain ⟨rfl, h2, -⟩ := h
  have := bd_to h2 (by omega)
  omega
def lawK (p : Program) (l : Launch) (e : Env) (s : State) (m : MethodId) (below : List Frame) (meth : Method) (c : Code) (D : va_G) (cI cB cK cS : ClassId) (b : Nat) (k9 : Nat) : Prop := ∀ {B S U Q V K Z Z2 Z3 Y : Nat → Nat} {f : Nat → Int32} {kv : Nat → Nat → Int32} {mv : Nat → Int32} {f2 : Nat → Int32} {kv2 : Nat → Nat → Int32} {mv2 : Nat → Int32} {f3 : Nat → Int32} {kv3 : Nat → Nat → Int32} {mv3 : Nat → Int32} {t_len : Int32} {t_end : Int32} {t_met : Nat → Int32} {p_len : Int32} {p_bytes : Nat → Int32} {d_place : Int32} {d_token : Int32} {d_value : Int32} {d_start : Int32} {d_fault : Int32} {d_num : Nat → Int32} {a_cnt : Int32} {a_way : Int32} {a_num : Int32} {a_many : Int32} {a_place : Int32} {a_print : Int32} {a_trace : Nat → Int32} {sv : Nat → Nat → Int32} {si : Nat → Nat → Int32} {g_landed : Int32} {g_fault : Int32} {g_find : Int32} {m_thrown : Int32} {m_status : Int32} {m_isThere : Int32} {m_kinds : Int32} {m_newKinds : Int32} {m_print : Int32} {m_low : Int32} {m_high : Int32} {m_lot : Int32} {m_taped : Int32} {m_latest : Int32} {m_length : Int32} {m_cursor : Int32} {m_token : Int32} {m_from : Int32} {m_till : Int32} {m_fault : Int32} {m_faultAt : Int32} {m_traced : Int32} {r_lane : Nat → Int32} {r_many : Nat → Int32} {r_item : Nat → Int32} {r_market : Nat → Int32} {r_of : Nat → Int32} {r_newMarket : Nat → Int32} {r_newStart : Nat → Int32} {r_newOf : Nat → Int32} {r_newCoin : Nat → Int32} {r_state : Nat → Int32} {r_kept : Nat → Int32} {r_tape : Nat → Int32} {r_brings : Nat → Int32} {r_seen : Nat → Int32} {r_seenOut : Nat → Int32} {r_trace : Nat → Int32} {H : Heap} {locs : List Loc} {ls : Array Slot}, va_P D vwCl (landW Z cK f kv mv ++ (landW Z2 cK f2 kv2 mv2 ++ (landW Z3 cK f3 kv3 mv3 ++ (trW V Z cI t_len t_end t_met ++ (tpW U cB p_len p_bytes ++ (rdW Q U cI d_place d_token d_value d_start d_fault d_num ++ (akW K cI a_cnt a_way a_num a_many a_place a_print a_trace ++ (shW S cI cS sv si ++ (pigW B S U Q V K Z2 Z3 g_landed g_fault g_find ++ (mdW Y cI m_thrown m_status m_isThere m_kinds m_newKinds m_print m_low m_high m_lot m_taped m_latest m_length m_cursor m_token m_from m_till m_fault m_faultAt m_traced r_lane r_many r_item r_market r_of r_newMarket r_newStart r_newOf r_newCoin r_state r_kept r_tape r_brings r_seen r_seenOut r_trace ++ [])))))))))) H → va_D (fun q : Nat => s.heap.size ≤ q) (landW Z cK f kv mv ++ (landW Z2 cK f2 kv2 mv2 ++ (landW Z3 cK f3 kv3 mv3 ++ (trW V Z cI t_len t_end t_met ++ (tpW U cB p_len p_bytes ++ (rdW Q U cI d_place d_token d_value d_start d_fault d_num ++ (akW K cI a_cnt a_way a_num a_many a_place a_print a_trace ++ (shW S cI cS sv si ++ (pigW B S U Q V K Z2 Z3 g_landed g_fault g_find ++ (mdW Y cI m_thrown m_status m_isThere m_kinds m_newKinds m_print m_low m_high m_lot m_taped m_latest m_length m_cursor m_token m_from m_till m_fault m_faultAt m_traced r_lane r_many r_item r_market r_of r_newMarket r_newStart r_newOf r_newCoin r_state r_kept r_tape r_brings r_seen r_seenOut r_trace ++ [])))))))))) → va_S (fun q : Nat => s.heap.size ≤ q) s.heap H locs → lv_has ls 4 [(0, .ref b), (1, .ref (B 0)), (2, .ref (Y 0)), (3, .int (nI (6 * k9)))] → INV (k9 + 1) f2 kv2 mv2 kv3 sv si p_len p_bytes a_cnt a_trace g_landed g_fault g_find m_status m_isThere m_kinds m_print m_low m_high m_lot m_taped m_latest m_cursor m_from m_till m_traced r_lane r_many r_item r_market r_of r_state r_tape r_trace → W p l e room_1 s m #[Value.ref b] below meth c H locs 67 2415 (lw_Z below #[Value.ref b] s) (F0 m 883 ls [])
