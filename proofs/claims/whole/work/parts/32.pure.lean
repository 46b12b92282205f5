def lL (z : Int) : Int64 := Int64.ofInt z
theorem lL_toInt {z : Int} (h1 : -9223372036854775808 ≤ z) (h2 : z < 9223372036854775808) : (lL z).toInt = z := by
  exact Int64.toInt_ofInt_of_le (by omega) (by omega)
theorem lL_add (a b : Int) : lL a + lL b = lL (a + b) := (Int64.ofInt_add a b).symm
theorem lL_mul (a b : Int) : lL a * lL b = lL (a * b) := (Int64.ofInt_mul a b).symm
theorem lL_sub (a b : Int) : lL a - lL b = lL (a - b) := (Int64.ofInt_sub a b).symm
theorem lL_neg (a : Int) : -lL a = lL (-a) := (Int64.ofInt_neg a).symm
theorem lL_of (x : Int32) : x.toInt64 = lL x.toInt := by
  apply Int64.toInt_inj.mp
  have := i_rng x
  rw [Int32.toInt_toInt64, lL_toInt (by omega) (by omega)]
theorem lL_nI {n : Nat} (h : n < 2147483648) : (nI n).toInt64 = lL n := by rw [lL_of, pu_toInt h]
theorem mul_bd {a b : Int} {M : Nat} (ha : a.natAbs ≤ M) (hb : b.natAbs ≤ M) : (a * b).natAbs ≤ M * M := by
  rw [Int.natAbs_mul]; exact Nat.mul_le_mul ha hb
theorem side_eq {a b : Int} (ha : a.natAbs ≤ 1000000000000) (hb : b.natAbs ≤ 1000000000000) : sX11_side (lL a) (lL b) = if a < b then -1 else if a = b then 0 else 1 := by
  unfold sX11_side
  have ea := lL_toInt (z := a) (by omega) (by omega)
  have eb := lL_toInt (z := b) (by omega) (by omega)
  by_cases h1 : a < b
  · have : lg_cmp (lL a) (lL b) < 0 := cmp_lt.mpr (by rw [ea, eb]; exact h1)
    rw [if_pos h1, if_neg (fun q => by rw [Int32.lt_iff_toInt_lt] at this; rw [Int32.le_iff_toInt_le] at q; omega)]
  · rw [if_neg h1]
    have n1 : ¬ lg_cmp (lL a) (lL b) < 0 := fun q => h1 (by have := cmp_lt.mp q; rw [ea, eb] at this; exact this)
    rw [if_pos (by rw [Int32.lt_iff_toInt_lt] at n1; rw [Int32.le_iff_toInt_le]; omega)]
    by_cases h2 : a = b
    · rw [if_pos h2, h2]
      have : lg_cmp (lL b) (lL b) = 0 := by unfold lg_cmp; rw [if_neg (fun q => by have := Int64.lt_iff_toInt_lt.mp q; omega), if_pos rfl]
      rw [if_pos this]
    · rw [if_neg h2]
      have : 0 < lg_cmp (lL a) (lL b) := cmp_gt.mpr (by rw [ea, eb]; omega)
      rw [if_neg (fun q => by rw [q] at this; exact absurd this (by decide))]
theorem size_eq {a : Int} (ha : a.natAbs ≤ 1000000000000) : sX11_size (lL a) = lL a.natAbs := by
  unfold sX11_size
  have ea := lL_toInt (z := a) (by omega) (by omega)
  have e0 : (0 : Int64).toInt = 0 := by decide
  by_cases h : a < 0
  · have : lg_cmp (lL a) 0 < 0 := cmp_lt.mpr (by rw [ea, e0]; exact h)
    rw [if_neg (fun q => by rw [Int32.lt_iff_toInt_lt] at this; rw [Int32.le_iff_toInt_le] at q; omega), lL_neg]
    congr 1; omega
  · have n1 : ¬ lg_cmp (lL a) 0 < 0 := fun q => h (by have := cmp_lt.mp q; rw [ea, e0] at this; exact this)
    rw [if_pos (by rw [Int32.lt_iff_toInt_lt] at n1; rw [Int32.le_iff_toInt_le]; omega)]
    congr 1; omega
theorem abs_eq {a : Int} (ha : a.natAbs ≤ 1000000000000) : (if 0 < lL a then lL a else -lL a) = lL a.natAbs := by
  have ea := lL_toInt (z := a) (by omega) (by omega)
  have e0 : (0 : Int64).toInt = 0 := by decide
  by_cases h : 0 < a
  · rw [if_pos (Int64.lt_iff_toInt_lt.mpr (by rw [ea, e0]; exact h))]
    congr 1; omega
  · rw [if_neg (fun q => h (by have := Int64.lt_iff_toInt_lt.mp q; rw [ea, e0] at this; exact this)), lL_neg]
    congr 1; omega
theorem cmp0 {a : Int} (ha : a.natAbs ≤ 1000000000000) : lg_cmp (lL a) 0 = if a < 0 then -1 else if a = 0 then 0 else 1 := by
  have ea := lL_toInt (z := a) (by omega) (by omega)
  have e0 : (0 : Int64).toInt = 0 := by decide
  unfold lg_cmp
  by_cases h1 : a < 0
  · rw [if_pos h1, if_neg (fun q => by have := Int64.lt_iff_toInt_lt.mp q; omega), if_neg (fun q => by have := congrArg Int64.toInt q; omega)]
  · rw [if_neg h1]
    by_cases h2 : a = 0
    · rw [if_pos h2, if_neg (fun q => by have := Int64.lt_iff_toInt_lt.mp q; omega), if_pos (by rw [h2]; rfl)]
    · rw [if_neg h2, if_pos (Int64.lt_iff_toInt_lt.mpr (by omega))]
theorem verdict {A B C D E F : Int} (hA : A.natAbs ≤ 300000000000) (hB : B.natAbs ≤ 300000000000) (hC : C.natAbs ≤ 300000000000) (hD : D.natAbs ≤ 300000000000) (hE : E.natAbs ≤ 300000000000) (hF : F.natAbs ≤ 300000000000) :
    (if lg_cmp (lL (B - A)) 0 < 0 then (2 : Int32) else (if lg_cmp (lL (D - C)) 0 < 0 then 2 else (if 0 ≤ lg_cmp (lL (F - E)) 0 then (if lg_cmp (lL (B - A)) 0 ≤ 0 then 1 else (if lg_cmp (lL (D - C)) 0 ≤ 0 then 1 else (if lg_cmp (lL (F - E)) 0 ≤ 0 then 1 else 0))) else 2))) =
    (if 0 < sX11_side (lL A) (lL B) then 2 else (if 0 < sX11_side (lL C) (lL D) then 2 else (if sX11_side (lL E) (lL F) ≤ 0 then (if 0 ≤ sX11_side (lL A) (lL B) then 1 else (if 0 ≤ sX11_side (lL C) (lL D) then 1 else (if 0 ≤ sX11_side (lL E) (lL F) then 1 else 0))) else 2))) := by
  have key : ∀ X Y : Int, X.natAbs ≤ 300000000000 → Y.natAbs ≤ 300000000000 → (lg_cmp (lL (Y - X)) 0 = -1 ∧ sX11_side (lL X) (lL Y) = 1) ∨ (lg_cmp (lL (Y - X)) 0 = 0 ∧ sX11_side (lL X) (lL Y) = 0) ∨ (lg_cmp (lL (Y - X)) 0 = 1 ∧ sX11_side (lL X) (lL Y) = -1) := by
    intro X Y hX hY
    rw [cmp0 (by omega), side_eq (by omega) (by omega)]
    by_cases h1 : Y < X
    · rw [if_pos (by omega), if_neg (by omega), if_neg (by omega)]; exact Or.inl ⟨rfl, rfl⟩
    · rw [if_neg (show ¬ Y - X < 0 by omega)]
      by_cases h2 : X = Y
      · rw [if_pos (by omega), if_neg (by omega), if_pos h2]; exact Or.inr (Or.inl ⟨rfl, rfl⟩)
      · rw [if_neg (by omega), if_pos (by omega)]; exact Or.inr (Or.inr ⟨rfl, rfl⟩)
  rcases key A B hA hB with ⟨a1, a2⟩ | ⟨a1, a2⟩ | ⟨a1, a2⟩ <;> rcases key C D hC hD with ⟨c1, c2⟩ | ⟨c1, c2⟩ | ⟨c1, c2⟩ <;> rcases key E F hE hF with ⟨e1, e2⟩ | ⟨e1, e2⟩ | ⟨e1, e2⟩ <;> rw [a1, a2, c1, c2, e1, e2] <;> decide
def SgI (t : Nat → Int) : Nat → Int
  | 0 => 0
  | n + 1 => SgI t n + t n
theorem SgI_bd {t : Nat → Int} {b : Nat} : ∀ n, (∀ j, j < n → (t j).natAbs ≤ b) → (SgI t n).natAbs ≤ n * b := by
  intro n
  induction n with
  | zero => intro _; exact Nat.zero_le _
  | succ n ih =>
    intro h
    have h1 := ih (fun j hj => h j (by omega))
    have h2 := h n (by omega)
    show (SgI t n + t n).natAbs ≤ (n + 1) * b
    rw [Nat.succ_mul]; omega
def cW (b : Int32) (v : Nat → Int32) : Int := (sX1_pull v * sX2_weightOf b v).toInt
def qW (b : Int32) (kv : Nat → Nat → Int32) (j : Nat) : Int := if kv j 7 = 0 then cW b (kv j) else 0
def qD (kv : Nat → Nat → Int32) (j : Nat) : Int := if kv j 7 = 0 then (if kv j 0 = 6 then 30 * (sX1_pull (kv j)).toInt else 0) else 0
theorem outlook_loop {f : Nat → Int32} {kv : Nat → Nat → Int32} {K : Nat} (hK : K ≤ 5) (hf : f 2 = nI K) (D : Int) : lX2_outlookAt_19 f kv 6 0 (lL D) 0 0 0 = (nI K, lL (D + SgI (qD kv) K), lL (SgI (qW 2 kv) K), lL (SgI (qW 1 kv) K), lL (SgI (qW 0 kv) K)) := by
  have key := loop_run (fun n i (s : Int64 × Int64 × Int64 × Int64) => lX2_outlookAt_19 f kv n (nI i) s.1 s.2.1 s.2.2.1 s.2.2.2) (fun i => (lL (D + SgI (qD kv) i), lL (SgI (qW 2 kv) i), lL (SgI (qW 1 kv) i), lL (SgI (qW 0 kv) i))) K ?_ (6 - K) K (Nat.le_refl _)
  · have key' : lX2_outlookAt_19 f kv (6 - K + K) (nI 0) (lL (D + 0)) (lL 0) (lL 0) (lL 0) = lX2_outlookAt_19 f kv (6 - K) (nI K) (lL (D + SgI (qD kv) K)) (lL (SgI (qW 2 kv) K)) (lL (SgI (qW 1 kv) K)) (lL (SgI (qW 0 kv) K)) := key
    rw [show 6 - K + K = 6 by omega, Int.add_zero] at key'
    refine Eq.trans key' ?_
    rw [show 6 - K = (5 - K) + 1 by omega]
    unfold lX2_outlookAt_19
    rw [if_pos (by rw [hf]; exact Int32.le_refl _)]
  · intro n i hi
    show lX2_outlookAt_19 f kv (n + 1) (nI i) (lL (D + SgI (qD kv) i)) (lL (SgI (qW 2 kv) i)) (lL (SgI (qW 1 kv) i)) (lL (SgI (qW 0 kv) i)) = lX2_outlookAt_19 f kv n (nI (i + 1)) (lL (D + (SgI (qD kv) i + qD kv i))) (lL (SgI (qW 2 kv) i + qW 2 kv i)) (lL (SgI (qW 1 kv) i + qW 1 kv i)) (lL (SgI (qW 0 kv) i + qW 0 kv i))
    rw [lX2_outlookAt_19]
    obtain ⟨g1, g2⟩ := c_go hK hi
    rw [hf, if_neg g1, if_neg g2, pu_nat (show i < 2147483648 by omega), pu_succ]
    simp only [ltd]
    unfold qW qD cW
    by_cases c : kv i 7 = 0
    · simp only [if_pos c, lL_of, lL_add]
      by_cases d : kv i 0 = 6
      · simp only [if_pos d]
        rw [show (30 : Int64) = lL 30 from rfl, lL_mul, lL_add, Int.add_assoc]
      · simp only [if_neg d]
        rw [show (0 : Int64) = lL 0 from rfl, lL_add, Int.add_assoc]
    · simp only [if_neg c, Int.add_zero]
section
variable {K Y : Nat} {g kinds print low high lot : Int32} {market of state f : Nat → Int32} {kv : Nat → Nat → Int32} {mv : Nat → Int32}
theorem LD.adds (h : LD K Y print low high lot market of state f kv mv) {j : Nat} (hj : j < K) (n : Nat) (a b d e : Int) :
    lX11_diesAt_19 (nI K) of state (n + 1) (nI j) (lL a) (lL b) (lL d) (lL e) = lX11_diesAt_19 (nI K) of state n (nI (j + 1)) (lL (a + qD kv j)) (lL (b + qW 2 kv j)) (lL (d + qW 1 kv j)) (lL (e + qW 0 kv j)) ∧ (qD kv j).natAbs ≤ 45600 ∧ (qW 0 kv j).natAbs ≤ 45600 ∧ (qW 1 kv j).natAbs ≤ 45600 ∧ (qW 2 kv j).natAbs ≤ 45600 := by
  have hK := h.hK
  have t0 : sX11_told (nI j) 0 of = of (6 * j) := told_eq (c := 0) rfl (by omega) (by omega) of
  have t1 : sX11_told (nI j) 1 of = of (6 * j + 1) := told_eq (c := 1) rfl (by omega) (by omega) of
  have t2 : sX11_told (nI j) 2 of = of (6 * j + 2) := told_eq (c := 2) rfl (by omega) (by omega) of
  have t4 : sX11_told (nI j) 4 of = of (6 * j + 4) := told_eq (c := 4) rfl (by omega) (by omega) of
  have k0 : kv j 0 = of (6 * j) := h.kd j hj 0 (by omega)
  have k1 := h.kd j hj 1 (by omega)
  have k2 := h.kd j hj 2 (by omega)
  have k4 := h.kd j hj 4 (by omega)
  obtain ⟨⟨m, hm, em⟩, -, ⟨s, hs, es⟩, -⟩ := h.kb j hj
  have hp : m * s ≤ 800 := Nat.le_trans (Nat.mul_le_mul hm hs) (by omega)
  obtain ⟨g1, g2⟩ := c_go hK hj
  rw [lX11_diesAt_19, if_neg g1]
  simp only [ltd]
  rw [t0, t1, t2, t4, pu_succ, em, es, lL_nI (by omega), lL_nI (by omega), lL_mul]
  unfold qW qD cW
  rcases h.out hj with ⟨o1, o2⟩ | ⟨o1, o2⟩
  · simp only [if_pos o1, if_pos o2]
    have ep : sX1_pull (kv j) = nI (m * s) := by unfold sX1_pull; rw [k2, k4, em, es, pu_mul]
    rw [ep]
    have eP : ((m : Int) * (s : Int)) = ((m * s : Nat) : Int) := by rw [Int.natCast_mul]
    rw [eP]
    generalize m * s = P at hp
    have pt : ∀ (W : Int32) (ω : Int), W.toInt = ω → ω.natAbs ≤ 57 → (nI P * W).toInt = P * ω ∧ ((P : Int) * ω).natAbs ≤ 45600 := by
      intro W ω e1 e2
      have hb : ((P : Int) * ω).natAbs ≤ 45600 := by
        rw [Int.natAbs_mul]
        exact Nat.le_trans (Nat.mul_le_mul (show (P : Int).natAbs ≤ 800 by omega) e2) (by omega)
      have := i_mul (x := nI P) (y := W) (by rw [pu_toInt (by omega), e1]; omega) (by rw [pu_toInt (by omega), e1]; omega)
      rw [this, pu_toInt (by omega), e1]
      exact ⟨rfl, hb⟩
    rcases h.kw j hj with w | ⟨w, wb⟩ | ⟨w, wb⟩ | w | w | w
    · have w0 : sX2_weightOf 0 (kv j) = 30 := by unfold sX2_weightOf; rw [k0, w]; rfl
      have w1 : sX2_weightOf 1 (kv j) = 0 := by unfold sX2_weightOf; rw [k0, w]; rfl
      have w2 : sX2_weightOf 2 (kv j) = 0 := by unfold sX2_weightOf; rw [k0, w]; rfl
      rw [w0, w1, w2, k0, w, if_pos rfl, if_neg (show ¬ (1 : Int32) = 6 by decide)]
      obtain ⟨p0, b0⟩ := pt 30 30 (by decide) (by decide)
      obtain ⟨p1, b1⟩ := pt 0 0 (by decide) (by decide)
      rw [p0, p1]
      refine ⟨?_, by omega, b0, b1, b1⟩
      rw [show (30 : Int64) = lL 30 from rfl, lL_mul, lL_add, show a + 0 = a by omega, show b + (P : Int) * 0 = b by omega, show d + (P : Int) * 0 = d by omega, Int.mul_comm 30]
    · rw [w, if_neg (show ¬ (2 : Int32) = 1 by decide), if_pos rfl]
      rcases wb with wb | wb | wb
      · have w0 : sX2_weightOf 0 (kv j) = 30 := by unfold sX2_weightOf; rw [k0, w, k1, wb]; decide
        have w1 : sX2_weightOf 1 (kv j) = 0 := by unfold sX2_weightOf; rw [k0, w, k1, wb]; decide
        have w2 : sX2_weightOf 2 (kv j) = 0 := by unfold sX2_weightOf; rw [k0, w, k1, wb]; decide
        rw [w0, w1, w2, k0, w, if_neg (show ¬ (2 : Int32) = 6 by decide), wb]
        obtain ⟨p0, b0⟩ := pt 30 30 (by decide) (by decide)
        obtain ⟨p1, b1⟩ := pt 0 0 (by decide) (by decide)
        rw [p0, p1]
        refine ⟨?_, by omega, b0, b1, b1⟩
        rw [if_pos (show (1 : Int32) ≤ 1 by decide), if_pos (show (1 : Int32) ≤ 2 by decide), show (30 : Int64) / (1 : Int32).toInt64 = lL 30 by decide, show (0 : Int64) = lL 0 from rfl, lL_mul, lL_add, lL_add, lL_add, show a + 0 = a by omega, show b + (P : Int) * 0 = b + 0 by omega, show d + (P : Int) * 0 = d + 0 by omega, Int.mul_comm 30]
      · have w0 : sX2_weightOf 0 (kv j) = 15 := by unfold sX2_weightOf; rw [k0, w, k1, wb]; decide
        have w1 : sX2_weightOf 1 (kv j) = 15 := by unfold sX2_weightOf; rw [k0, w, k1, wb]; decide
        have w2 : sX2_weightOf 2 (kv j) = 0 := by unfold sX2_weightOf; rw [k0, w, k1, wb]; decide
        rw [w0, w1, w2, k0, w, if_neg (show ¬ (2 : Int32) = 6 by decide), wb]
        obtain ⟨p0, b0⟩ := pt 15 15 (by decide) (by decide)
        obtain ⟨p1, b1⟩ := pt 0 0 (by decide) (by decide)
        rw [p0, p1]
        refine ⟨?_, by omega, b0, b0, b1⟩
        rw [if_neg (show ¬ (2 : Int32) ≤ 1 by decide), if_pos (show (2 : Int32) ≤ 2 by decide), show (30 : Int64) / (2 : Int32).toInt64 = lL 15 by decide, show (0 : Int64) = lL 0 from rfl, lL_mul, lL_add, lL_add, lL_add, show a + 0 = a by omega, show b + (P : Int) * 0 = b + 0 by omega, Int.mul_comm 15]
      · have w0 : sX2_weightOf 0 (kv j) = 10 := by unfold sX2_weightOf; rw [k0, w, k1, wb]; decide
        have w1 : sX2_weightOf 1 (kv j) = 10 := by unfold sX2_weightOf; rw [k0, w, k1, wb]; decide
        have w2 : sX2_weightOf 2 (kv j) = 10 := by unfold sX2_weightOf; rw [k0, w, k1, wb]; decide
        rw [w0, w1, w2, k0, w, if_neg (show ¬ (2 : Int32) = 6 by decide), wb]
        obtain ⟨p0, b0⟩ := pt 10 10 (by decide) (by decide)
        rw [p0]
        refine ⟨?_, by omega, b0, b0, b0⟩
        rw [if_neg (show ¬ (3 : Int32) ≤ 1 by decide), if_neg (show ¬ (3 : Int32) ≤ 2 by decide), show (30 : Int64) / (3 : Int32).toInt64 = lL 10 by decide, lL_mul, lL_add, lL_add, lL_add, show a + 0 = a by omega, Int.mul_comm 10]
    · obtain ⟨t, ht, et⟩ := wb
      have w0 : sX2_weightOf 0 (kv j) = nI (30 + 3 * t) := by
        unfold sX2_weightOf
        rw [k0, w, k1, et, if_neg (show ¬ (3 : Int32) = 1 by decide), if_neg (show ¬ (3 : Int32) = 2 by decide), if_pos rfl, ltd]
        unfold sX2_trendWeight
        rw [if_pos rfl, show (30 : Int32) = nI 30 from rfl, show (3 : Int32) = nI 3 from rfl, pu_mul, pu_add]
      have w1 : sX2_weightOf 1 (kv j) = -nI (3 * t) := by
        unfold sX2_weightOf
        rw [k0, w, k1, et, if_neg (show ¬ (3 : Int32) = 1 by decide), if_neg (show ¬ (3 : Int32) = 2 by decide), if_pos rfl, ltd]
        unfold sX2_trendWeight
        rw [if_neg (show ¬ (1 : Int32) = 0 by decide), if_pos rfl, show (3 : Int32) = nI 3 from rfl, pu_mul]
      have w2 : sX2_weightOf 2 (kv j) = 0 := by
        unfold sX2_weightOf
        rw [k0, w, if_neg (show ¬ (3 : Int32) = 1 by decide), if_neg (show ¬ (3 : Int32) = 2 by decide), if_pos rfl, ltd]
        unfold sX2_trendWeight
        rw [if_neg (show ¬ (2 : Int32) = 0 by decide), if_neg (show ¬ (2 : Int32) = 1 by decide)]
      rw [w0, w1, w2, k0, w, if_neg (show ¬ (3 : Int32) = 1 by decide), if_neg (show ¬ (3 : Int32) = 2 by decide), if_pos rfl, if_neg (show ¬ (3 : Int32) = 6 by decide), et, lL_nI (by omega)]
      obtain ⟨p0, b0⟩ := pt (nI (30 + 3 * t)) (30 + 3 * t) (by rw [pu_toInt (by omega)]; omega) (by omega)
      obtain ⟨p1, b1⟩ := pt (-nI (3 * t)) (-(3 * t)) (by
        rw [Int32.toInt_neg, pu_toInt (by omega)]
        rw [Int.bmod_eq_of_le (by omega) (by omega)]; omega) (by omega)
      obtain ⟨p2, b2⟩ := pt 0 0 (by decide) (by decide)
      rw [p0, p1, p2]
      refine ⟨?_, by omega, b0, b1, b2⟩
      rw [show (30 : Int64) = lL 30 from rfl, show (3 : Int64) = lL 3 from rfl, lL_mul, lL_add, lL_mul, lL_mul, lL_add, lL_sub, show a + 0 = a by omega, show b + (P : Int) * 0 = b by omega, Int.mul_neg, Int.mul_comm (30 + 3 * (t : Int)), Int.mul_comm (3 * (t : Int)), ← Int.sub_eq_add_neg]
    · have w0 : sX2_weightOf 0 (kv j) = -10 := by unfold sX2_weightOf; rw [k0, w]; rfl
      have w1 : sX2_weightOf 1 (kv j) = 20 := by unfold sX2_weightOf; rw [k0, w]; rfl
      have w2 : sX2_weightOf 2 (kv j) = 20 := by unfold sX2_weightOf; rw [k0, w]; rfl
      rw [w0, w1, w2, k0, w, if_neg (show ¬ (4 : Int32) = 1 by decide), if_neg (show ¬ (4 : Int32) = 2 by decide), if_neg (show ¬ (4 : Int32) = 3 by decide), if_pos rfl, if_neg (show ¬ (4 : Int32) = 6 by decide)]
      obtain ⟨p0, b0⟩ := pt (-10) (-10) (by decide) (by decide)
      obtain ⟨p1, b1⟩ := pt 20 20 (by decide) (by decide)
      rw [p0, p1]
      refine ⟨?_, by omega, b0, b1, b1⟩
      rw [show (10 : Int64) = lL 10 from rfl, show (20 : Int64) = lL 20 from rfl, lL_mul, lL_mul, lL_sub, lL_add, lL_add, show a + 0 = a by omega, show e + (P : Int) * (-10) = e - 10 * P by omega, Int.mul_comm 20]
    · have w0 : sX2_weightOf 0 (kv j) = 0 := by unfold sX2_weightOf; rw [k0, w]; rfl
      have w1 : sX2_weightOf 1 (kv j) = 0 := by unfold sX2_weightOf; rw [k0, w]; rfl
      have w2 : sX2_weightOf 2 (kv j) = 0 := by unfold sX2_weightOf; rw [k0, w]; rfl
      rw [w0, w1, w2, k0, w, if_neg (show ¬ (5 : Int32) = 1 by decide), if_neg (show ¬ (5 : Int32) = 2 by decide), if_neg (show ¬ (5 : Int32) = 3 by decide), if_neg (show ¬ (5 : Int32) = 4 by decide), if_pos rfl, if_neg (show ¬ (5 : Int32) = 6 by decide)]
      obtain ⟨p0, b0⟩ := pt 0 0 (by decide) (by decide)
      rw [p0]
      refine ⟨?_, by omega, b0, b0, b0⟩
      rw [show a + 0 = a by omega, show e + (P : Int) * 0 = e by omega, show d + (P : Int) * 0 = d by omega, show b + (P : Int) * 0 = b by omega]
    · have w0 : sX2_weightOf 0 (kv j) = 0 := by unfold sX2_weightOf; rw [k0, w]; rfl
      have w1 : sX2_weightOf 1 (kv j) = 0 := by unfold sX2_weightOf; rw [k0, w]; rfl
      have w2 : sX2_weightOf 2 (kv j) = 0 := by unfold sX2_weightOf; rw [k0, w]; rfl
      rw [w0, w1, w2, k0, w, if_neg (show ¬ (6 : Int32) = 1 by decide), if_neg (show ¬ (6 : Int32) = 2 by decide), if_neg (show ¬ (6 : Int32) = 3 by decide), if_neg (show ¬ (6 : Int32) = 4 by decide), if_neg (show ¬ (6 : Int32) = 5 by decide), if_pos rfl, if_pos rfl]
      obtain ⟨p0, b0⟩ := pt 0 0 (by decide) (by decide)
      rw [p0, pu_toInt (by omega)]
      refine ⟨?_, by omega, b0, b0, b0⟩
      rw [show (30 : Int64) = lL 30 from rfl, lL_mul, lL_add, show e + (P : Int) * 0 = e by omega, show d + (P : Int) * 0 = d by omega, show b + (P : Int) * 0 = b by omega]
  · simp only [if_neg o1, if_neg o2, Int64.mul_zero, Int64.add_zero, Int64.sub_zero, Int.add_zero]
    refine ⟨?_, by omega, by omega, by omega, by omega⟩
    have z1 : ∀ x : Int64, (if of (6 * j + 1) ≤ 1 then (0 : Int64) else 0) = 0 := fun _ => by split <;> rfl
    have z2 : ∀ x : Int64, (if of (6 * j + 1) ≤ 2 then (0 : Int64) else 0) = 0 := fun _ => by split <;> rfl
    rw [z1 0, z2 0, Int64.add_zero, Int64.add_zero]
    repeat (first | rfl | split)
theorem LD.dies (h : LD K Y print low high lot market of state f kv mv) {d : Nat} (hd : d ≤ 20) : sX2_outlookAt (nI d) f kv = sX11_diesAt (nI d) (nI K) of state := by
  have hK := h.hK
  have em : lX11_diesAt_19 (nI K) of state 6 0 (lL (300 * d)) 0 0 0 = (nI K, lL (300 * d + SgI (qD kv) K), lL (SgI (qW 2 kv) K), lL (SgI (qW 1 kv) K), lL (SgI (qW 0 kv) K)) := by
    have key := loop_run (fun n i (s : Int64 × Int64 × Int64 × Int64) => lX11_diesAt_19 (nI K) of state n (nI i) s.1 s.2.1 s.2.2.1 s.2.2.2) (fun i => (lL (300 * d + SgI (qD kv) i), lL (SgI (qW 2 kv) i), lL (SgI (qW 1 kv) i), lL (SgI (qW 0 kv) i))) K ?_ (6 - K) K (Nat.le_refl _)
    · have key' : lX11_diesAt_19 (nI K) of state (6 - K + K) (nI 0) (lL (300 * d + 0)) (lL 0) (lL 0) (lL 0) = lX11_diesAt_19 (nI K) of state (6 - K) (nI K) (lL (300 * d + SgI (qD kv) K)) (lL (SgI (qW 2 kv) K)) (lL (SgI (qW 1 kv) K)) (lL (SgI (qW 0 kv) K)) := key
      rw [show 6 - K + K = 6 by omega, Int.add_zero] at key'
      refine Eq.trans key' ?_
      rw [show 6 - K = (5 - K) + 1 by omega]
      unfold lX11_diesAt_19
      rw [if_pos (Int32.le_refl _)]
    · intro n i hi
      have := (h.adds hi n (300 * d + SgI (qD kv) i) (SgI (qW 2 kv) i) (SgI (qW 1 kv) i) (SgI (qW 0 kv) i)).1
      rw [Int.add_assoc] at this
      exact this
  unfold sX2_outlookAt sX11_diesAt
  simp only [ltd]
  have e300 : 300 * (nI d).toInt64 = lL (300 * d) := by rw [lL_nI (by omega), show (300 : Int64) = lL 300 from rfl, lL_mul]
  rw [e300, outlook_loop hK h.f2, em]
  dsimp only
  have hb := fun j hj => (h.adds (j := j) hj 0 0 0 0 0).2
  have bD := SgI_bd (b := 45600) K (fun j hj => (hb j hj).1)
  have b0 := SgI_bd (b := 45600) K (fun j hj => (hb j hj).2.1)
  have b1 := SgI_bd (b := 45600) K (fun j hj => (hb j hj).2.2.1)
  have b2 := SgI_bd (b := 45600) K (fun j hj => (hb j hj).2.2.2)
  have hKb : K * 45600 ≤ 228000 := by omega
  have bD' : ((300 : Int) * d + SgI (qD kv) K).natAbs ≤ 240000 := by omega
  generalize (300 : Int) * d + SgI (qD kv) K = D at bD'
  generalize SgI (qW 0 kv) K = n0 at b0
  generalize SgI (qW 1 kv) K = n1 at b1
  generalize SgI (qW 2 kv) K = n2 at b2
  have m1 := mul_bd (a := n1) (b := D) (M := 240000) (by omega) (by omega)
  have m2 := mul_bd (a := n0) (b := n2) (M := 240000) (by omega) (by omega)
  have m3 := mul_bd (a := D) (b := D) (M := 240000) (by omega) (by omega)
  have m4 := mul_bd (a := n2) (b := n2) (M := 240000) (by omega) (by omega)
  simp only [lL_add, lL_mul, lL_sub]
  generalize n1 * D = x1 at m1
  generalize n0 * n2 = x2 at m2
  generalize D * D = x3 at m3
  generalize n2 * n2 = x4 at m4
  rw [abs_eq (by omega), abs_eq (by omega), abs_eq (by omega), size_eq (by omega), size_eq (by omega), size_eq (by omega)]
  simp only [lL_sub]
  exact verdict (by omega) (by omega) (by omega) (by omega) (by omega) (by omega)
theorem dies_ok (h : LI g kinds Y print low high lot market of state f kv mv) : sX10_dies f kv g = (sX11_dies g kinds market of state).1 := by
  unfold sX10_dies sX11_dies
  simp only [ltd]
  obtain ⟨hz, ⟨h1, h2, h3⟩ | ⟨h1, K, h2, h3⟩⟩ := h
  · subst h1
    rw [if_pos rfl, if_pos rfl]
  · subst h1; subst h2
    rw [if_neg (show ¬ (1 : Int32) = 0 by decide), if_neg (show ¬ (1 : Int32) = 0 by decide), h3.f4]
    obtain ⟨d, hd1, hd2, ed⟩ := h3.bq
    rw [ed]
    dsimp only
    rw [h3.dies hd2]
theorem steep_ok (h : LI g kinds Y print low high lot market of state f kv mv) : sX10_steep f kv g = (sX11_steep g kinds of state).1 := by
  unfold sX10_steep sX11_steep
  obtain ⟨hz, ⟨h1, h2, h3⟩ | ⟨h1, K, h2, h3⟩⟩ := h
  · subst h1
    rw [if_pos rfl, if_pos rfl]
  · subst h1; subst h2
    rw [if_neg (show ¬ (1 : Int32) = 0 by decide), if_neg (show ¬ (1 : Int32) = 0 by decide)]
    have key : ∀ m i n1 n2, i + m = 21 → m < n1 → m < n2 → lX10_steep_12 f kv n1 (nI i) = (lX11_steep_17 (nI K) of state n2 (nI i)).1 := by
      intro m
      induction m with
      | zero =>
        intro i n1 n2 e1 e2 e3
        obtain ⟨n1, rfl⟩ : ∃ n', n1 = n' + 1 := ⟨n1 - 1, by omega⟩
        obtain ⟨n2, rfl⟩ : ∃ n', n2 = n' + 1 := ⟨n2 - 1, by omega⟩
        have : i = 21 := by omega
        subst this
        rw [lX10_steep_12, if_pos (show (20 : Int32) < nI 21 by decide), lX11_steep_17, if_pos (show (21 : Int32) ≤ nI 21 by decide)]
      | succ m ih =>
        intro i n1 n2 e1 e2 e3
        obtain ⟨n1, rfl⟩ : ∃ n', n1 = n' + 1 := ⟨n1 - 1, by omega⟩
        obtain ⟨n2, rfl⟩ : ∃ n', n2 = n' + 1 := ⟨n2 - 1, by omega⟩
        have q1 : ¬ (20 : Int32) < nI i := fun q => by have := (pu_lt (a := 20) (by omega) (by omega)).mp q; omega
        have q2 : ¬ (21 : Int32) ≤ nI i := fun q => by have := (pu_le (a := 21) (by omega) (by omega)).mp q; omega
        rw [lX10_steep_12, if_neg q1, lX11_steep_17, if_neg q2]
        simp only [ltd]
        rw [h3.dies (by omega), pu_succ]
        by_cases c : sX11_diesAt (nI i) (nI K) of state = 0
        · rw [if_pos c, if_pos c]
        · rw [if_neg c, if_neg c]
          exact ih (i + 1) n1 n2 (by omega) (by omega) (by omega)
    have e := key 20 1 22 22 (by omega) (by omega) (by omega)
    rw [show nI 1 = (1 : Int32) from rfl] at e
    exact e
end
section
variable {K Y : Nat} {g kinds print low high lot : Int32} {market of state f : Nat → Int32} {kv : Nat → Nat → Int32} {mv : Nat → Int32}
theorem LI.kd (h : LI g kinds Y print low high lot market of state f kv mv) : ∃ K, K ≤ 5 ∧ f 2 = nI K ∧ kinds = nI K ∧ (0 < K → LD K Y print low high lot market of state f kv mv) := by
  obtain ⟨hz, ⟨h1, h2, h3⟩ | ⟨h1, K, h2, h3⟩⟩ := h
  · exact ⟨0, by omega, h3, h2, fun q => by omega⟩
  · exact ⟨K, h3.hK, h3.f2, h2, fun _ => h3⟩
theorem LI.k8 (h : LI g kinds Y print low high lot market of state f kv mv) {kv' : Nat → Nat → Int32} (hk : ∀ j c, c ≠ 8 → kv' j c = kv j c) : LI g kinds Y print low high lot market of state f kv' mv := by
  obtain ⟨hz, h | ⟨h1, K, h2, h3⟩⟩ := h
  · exact ⟨fun j hj => by rw [hk j 7 (by omega)]; exact hz j hj, Or.inl h⟩
  · exact ⟨fun j hj => by rw [hk j 7 (by omega)]; exact hz j hj, Or.inr ⟨h1, K, h2, h3.k8 hk⟩⟩
theorem LD.guess (h : LD K Y print low high lot market of state f kv mv) {j : Nat} (hj : j < K) : (sX2_guessOf j f kv).1 = gM print of state (sX11_wiseGuess (nI K) print market of state) j ∧ ∀ i c, c ≠ 8 → (sX2_guessOf j f kv).2 i c = kv i c := by
  have hK := h.hK
  have k0 : kv j 0 = of (6 * j) := h.kd j hj 0 (by omega)
  unfold sX2_guessOf gM
  simp only [ltd]
  rcases h.way hj with w | ⟨w, w'⟩
  · rw [k0, if_pos w, if_pos w, bringUnwise_eq hK h.f2]
    dsimp only
    have h1 := h.k8 (rowsU_k8 (f := f) (kv := kv) K)
    have eU : Sg (tU f kv) K = Sg (tU f (rowsTo K (wU f kv) kv)) K := by rw [tU_k8 (rowsU_k8 K)]
    obtain ⟨w1, w2, -⟩ := h1.wiseEq (f' := f) (kv' := rowsTo K (wU f kv) kv) rfl rfl rfl KW.rfl'
    rw [← eU] at w1 w2
    refine ⟨w1, fun i c hc => ?_⟩
    rw [w2 i c (Or.inl hc), rowsU_k8 K i c hc]
  · rw [k0, if_neg w, if_neg w, h.kd j hj 1 (by omega), h.f6, h.f7, h.f8, h.f9, guess_eq w' h.bp]
    exact ⟨rfl, fun _ _ _ => rfl⟩
theorem farmers_ok (h : LI g kinds Y print low high lot market of state f kv mv) (k w : Int32) : (sX10_farmers k w f kv).1 = (sX11_farmers k w kinds print market of state).1 ∧ LI g kinds Y print low high lot market of state f (sX10_farmers k w f kv).2 mv := by
  obtain ⟨K, hK, hf, hkd, hld⟩ := h.kd
  unfold sX10_farmers sX11_farmers
  simp only [ltd]
  subst hkd
  rcases kind_cases (k := k) hK hf with ⟨j, a1, a2, a3, a4⟩ | ⟨a1, a2, -⟩
  · have hd := hld (by omega)
    rw [a3, a4, if_neg (show ¬ (some j = none) from fun q => by cases q), if_neg (show ¬ (1 : Int32) = 0 by decide)]
    have g0 : (some j).getD 0 = j := rfl
    simp only [g0]
    subst a2
    have kd := hd.kd j a1
    by_cases hw : 0 ≤ w.toInt ∧ w.toInt ≤ 7
    · rw [in_yes (a := 0) (b := 7) (by decide) (by decide) hw.1 hw.2, if_neg (show ¬ (1 : Int32) = 0 by decide)]
      obtain ⟨c, hc, rfl⟩ := pu_ex (x := w) (b := 7) hw.1 (by omega)
      obtain ⟨e1, e2⟩ := hd.guess a1
      have n7 : ∀ (y : Int32) (Z : Nat), y = nI Z → Z ≤ 12 → (y + nI j).toNatClampNeg = Z + j := fun y Z e hZ => by rw [e, pu_add, pu_nat (by omega)]
      have tt : ∀ c, c < 4 → sX11_told (nI j) (2 + nI c) of = of (6 * j + (2 + c)) := fun c hc => told_eq (c := 2 + c) (by rw [show (2 : Int32) = nI 2 from rfl, pu_add]) (by omega) (by omega) of
      rcases (show c = 0 ∨ c = 1 ∨ c = 2 ∨ c = 3 ∨ c = 4 ∨ c = 5 ∨ c = 6 ∨ c = 7 by omega) with rfl | rfl | rfl | rfl | rfl | rfl | rfl | rfl
      · rw [if_pos (show nI 0 = 0 from rfl), if_pos (show nI 0 ≤ 5 by decide), if_neg (show ¬ 4 ≤ nI 0 by decide), tt 0 (by omega)]
        exact ⟨kd 2 (by omega), h⟩
      · rw [if_neg (show ¬ nI 1 = 0 by decide), if_pos (show nI 1 = 1 from rfl), if_pos (show nI 1 ≤ 5 by decide), if_neg (show ¬ 4 ≤ nI 1 by decide), tt 1 (by omega)]
        exact ⟨kd 3 (by omega), h⟩
      · rw [if_neg (show ¬ nI 2 = 0 by decide), if_neg (show ¬ nI 2 = 1 by decide), if_pos (show nI 2 = 2 from rfl), if_pos (show nI 2 ≤ 5 by decide), if_neg (show ¬ 4 ≤ nI 2 by decide), tt 2 (by omega)]
        exact ⟨kd 4 (by omega), h⟩
      · rw [if_neg (show ¬ nI 3 = 0 by decide), if_neg (show ¬ nI 3 = 1 by decide), if_neg (show ¬ nI 3 = 2 by decide), if_pos (show nI 3 = 3 from rfl), if_pos (show nI 3 ≤ 5 by decide), if_neg (show ¬ 4 ≤ nI 3 by decide), tt 3 (by omega)]
        exact ⟨kd 5 (by omega), h⟩
      · rw [if_neg (show ¬ nI 4 = 0 by decide), if_neg (show ¬ nI 4 = 1 by decide), if_neg (show ¬ nI 4 = 2 by decide), if_neg (show ¬ nI 4 = 3 by decide), if_pos (show nI 4 = 4 from rfl), if_pos (show nI 4 ≤ 5 by decide), if_pos (show 4 ≤ nI 4 by decide), if_pos (show nI 4 = 4 from rfl), n7 7 7 rfl (by omega)]
        exact ⟨hd.kc j a1, h⟩
      · rw [if_neg (show ¬ nI 5 = 0 by decide), if_neg (show ¬ nI 5 = 1 by decide), if_neg (show ¬ nI 5 = 2 by decide), if_neg (show ¬ nI 5 = 3 by decide), if_neg (show ¬ nI 5 = 4 by decide), if_pos (show nI 5 = 5 from rfl), if_pos (show nI 5 ≤ 5 by decide), if_pos (show 4 ≤ nI 5 by decide), if_neg (show ¬ nI 5 = 4 by decide), n7 12 12 rfl (by omega)]
        dsimp only
        rw [← hd.ko j a1]
        rcases hd.kz j (by omega) with z | z
        · rw [z, if_pos rfl]; exact ⟨rfl, h⟩
        · rw [z, if_neg (show ¬ (1 : Int32) = 0 by decide)]; exact ⟨rfl, h⟩
      · rw [if_neg (show ¬ nI 6 = 0 by decide), if_neg (show ¬ nI 6 = 1 by decide), if_neg (show ¬ nI 6 = 2 by decide), if_neg (show ¬ nI 6 = 3 by decide), if_neg (show ¬ nI 6 = 4 by decide), if_neg (show ¬ nI 6 = 5 by decide), if_pos (show nI 6 = 6 from rfl), if_neg (show ¬ nI 6 ≤ 5 by decide), if_pos (show nI 6 = 6 from rfl), guessOf_eq (by omega)]
        exact ⟨e1, h.k8 e2⟩
      · rw [if_neg (show ¬ nI 7 = 0 by decide), if_neg (show ¬ nI 7 = 1 by decide), if_neg (show ¬ nI 7 = 2 by decide), if_neg (show ¬ nI 7 = 3 by decide), if_neg (show ¬ nI 7 = 4 by decide), if_neg (show ¬ nI 7 = 5 by decide), if_neg (show ¬ nI 7 = 6 by decide), if_pos (show nI 7 = 7 from rfl), if_neg (show ¬ nI 7 ≤ 5 by decide), if_neg (show ¬ nI 7 = 6 by decide), guessOf_eq (by omega), pigsBy_eq (by omega)]
        refine ⟨?_, h.k8 e2⟩
        dsimp only
        unfold sX1_pigsBy
        rw [e1, e2 j 3 (by omega), e2 j 4 (by omega), kd 3 (by omega), kd 4 (by omega)]
    · rw [in_no (a := 0) (b := 7) (by decide) (by decide) (by omega), if_pos (show (0 : Int32) = 0 from rfl)]
      have no : ∀ c : Nat, c ≤ 7 → ¬ w = nI c := fun c hc q => hw (by rw [q, pu_toInt (by omega)]; omega)
      rw [if_neg (show ¬ w = 0 from no 0 (by omega)), if_neg (show ¬ w = 1 from no 1 (by omega)), if_neg (show ¬ w = 2 from no 2 (by omega)), if_neg (show ¬ w = 3 from no 3 (by omega)), if_neg (show ¬ w = 4 from no 4 (by omega)), if_neg (show ¬ w = 5 from no 5 (by omega)), if_neg (show ¬ w = 6 from no 6 (by omega)), if_neg (show ¬ w = 7 from no 7 (by omega))]
      exact ⟨rfl, h⟩
  · rw [a1, a2, if_pos rfl, if_pos (show (0 : Int32) = 0 from rfl)]
    exact ⟨rfl, h⟩
theorem kind_ok (h : LI g kinds Y print low high lot market of state f kv mv) (k : Int32) : sX10_kind k f kv = (sX11_kind k kinds of).1 := by
  obtain ⟨K, hK, hf, hkd, hld⟩ := h.kd
  unfold sX10_kind sX11_kind
  simp only [ltd]
  subst hkd
  rcases kind_cases (k := k) hK hf with ⟨j, a1, a2, a3, a4⟩ | ⟨a1, a2, -⟩
  · rw [a3, a4, if_neg (show ¬ (some j = none) from fun q => by cases q), if_neg (show ¬ (1 : Int32) = 0 by decide), a2, told_eq (w := 0) (c := 0) rfl (by omega) (by omega)]
    exact (hld (by omega)).kd j a1 0 (by omega)
  · rw [a1, a2, if_pos rfl, if_pos (show (0 : Int32) = 0 from rfl)]
theorem now_ok (h : LI g kinds Y print low high lot market of state f kv mv) (w : Int32) : sX10_now w f mv g = (sX11_now w g state).1 := by
  unfold sX10_now sX11_now
  simp only [ltd]
  by_cases hw : 0 ≤ w.toInt ∧ w.toInt ≤ 6
  · rw [in_yes (a := 0) (b := 6) (by decide) (by decide) hw.1 hw.2, if_neg (show ¬ (1 : Int32) = 0 by decide)]
    rw [if_neg (show ¬ w < 0 from fun q => by rw [Int32.lt_iff_toInt_lt, i_0] at q; omega), if_pos (show w ≤ 6 by rw [Int32.le_iff_toInt_le, show (6 : Int32).toInt = 6 from by decide]; omega)]
    obtain ⟨hz, ⟨h1, h2, h3⟩ | ⟨h1, K, h2, h3⟩⟩ := h
    · subst h1
      rw [if_pos rfl, if_pos rfl]
    · subst h1
      rw [if_neg (show ¬ (1 : Int32) = 0 by decide), if_neg (show ¬ (1 : Int32) = 0 by decide)]
      obtain ⟨c, hc, rfl⟩ := pu_ex (x := w) (b := 6) hw.1 (by omega)
      rw [pu_nat (by omega)]
      dsimp only
      rcases (show c = 0 ∨ c = 1 ∨ c = 2 ∨ c = 3 ∨ c = 4 ∨ c = 5 ∨ c = 6 by omega) with rfl | rfl | rfl | rfl | rfl | rfl | rfl
      · exact h3.f6
      · exact h3.f7
      · exact h3.f8
      · exact h3.f10
      · exact h3.m3
      · exact h3.m4
      · exact h3.f11
  · rw [in_no (a := 0) (b := 6) (by decide) (by decide) (by omega), if_pos (show (0 : Int32) = 0 from rfl)]
    by_cases c : w < 0
    · rw [if_pos c]
    · rw [if_neg c, if_neg (fun q => hw (by rw [Int32.lt_iff_toInt_lt, i_0] at c; rw [Int32.le_iff_toInt_le, show (6 : Int32).toInt = 6 from by decide] at q; omega))]
theorem print_ok (h : LI g kinds Y print low high lot market of state f kv mv) (k : Int32) : (sX10_print k f g).1 = (sX11_print k g print).1 ∧ LI g kinds Y (sX11_print k g print).2.2 low high lot market of state (sX10_print k f g).2 kv mv := by
  unfold sX10_print sX11_print
  simp only [ltd]
  by_cases hw : 0 ≤ k.toInt ∧ k.toInt ≤ 99
  · rw [in_yes (a := 0) (b := 99) (by decide) (by decide) hw.1 hw.2, if_neg (show ¬ (1 : Int32) = 0 by decide)]
    rw [if_neg (show ¬ k < 0 from fun q => by rw [Int32.lt_iff_toInt_lt, i_0] at q; omega), if_pos (show k ≤ 99 by rw [Int32.le_iff_toInt_le, show (99 : Int32).toInt = 99 from by decide]; omega)]
    obtain ⟨hz, ⟨h1, h2, h3⟩ | ⟨h1, K, h2, h3⟩⟩ := h
    · subst h1
      rw [if_pos rfl, if_pos rfl]
      exact ⟨rfl, hz, Or.inl ⟨rfl, h2, h3⟩⟩
    · subst h1
      rw [if_neg (show ¬ (1 : Int32) = 0 by decide), if_neg (show ¬ (1 : Int32) = 0 by decide)]
      refine ⟨h3.f9, hz, Or.inr ⟨rfl, K, h2, ?_⟩⟩
      dsimp only
      exact LD.mk' h3.hK h3.f2 h3.f3 h3.f4 h3.f5 h3.f6 h3.f7 h3.f8 pu_us h3.f10 h3.f11 h3.m0 h3.m1 h3.m2 h3.m3 h3.m4 h3.kd h3.kc h3.ko h3.bt h3.bq h3.bf h3.b0 h3.b1 h3.b2 (show bd k 99 from bd_int hw.1 hw.2) h3.bl h3.bs h3.kb h3.kw h3.kx h3.kn h3.kz
  · rw [in_no (a := 0) (b := 99) (by decide) (by decide) (by omega), if_pos (show (0 : Int32) = 0 from rfl)]
    by_cases c : k < 0
    · rw [if_pos c]; exact ⟨rfl, h⟩
    · rw [if_neg c, if_neg (fun q => hw (by rw [Int32.lt_iff_toInt_lt, i_0] at c; rw [Int32.le_iff_toInt_le, show (99 : Int32).toInt = 99 from by decide] at q; omega))]
      exact ⟨rfl, h⟩
theorem ministry_ok (h : LI g kinds Y print low high lot market of state f kv mv) (a b n : Int32) : (sX10_ministry a b n mv g).1 = (sX11_ministry a b n g low high lot).1 ∧ LI g kinds Y print (sX11_ministry a b n g low high lot).2.2.1 (sX11_ministry a b n g low high lot).2.2.2.1 (sX11_ministry a b n g low high lot).2.2.2.2 market of state f kv (sX10_ministry a b n mv g).2 := by
  have h99 : (99 : Int32).toInt = 99 := by decide
  unfold sX10_ministry sX11_ministry
  simp only [ltd]
  simp only [Int32.lt_iff_toInt_lt, Int32.le_iff_toInt_le, i_0, h99]
  by_cases ok : 0 ≤ a.toInt ∧ a.toInt ≤ b.toInt ∧ b.toInt ≤ 99 ∧ 0 ≤ n.toInt ∧ n.toInt ≤ 99
  · obtain ⟨o1, o2, o3, o4, o5⟩ := ok
    rw [if_neg (show ¬ a.toInt < 0 by omega), if_neg (show ¬ b.toInt < a.toInt by omega), if_neg (show ¬ 99 < b.toInt by omega), if_neg (show ¬ n.toInt < 0 by omega), if_pos o5]
    rw [in_yes (v := a) (a := 0) (b := 99) (by decide) (by decide) o1 (by omega), if_neg (show ¬ (1 : Int32) = 0 by decide), in_yes (v := b) (a := a.toInt) (b := 99) (Int32.toInt_toInt64 a) (by decide) o2 o3, if_neg (show ¬ (1 : Int32) = 0 by decide), in_yes (v := n) (a := 0) (b := 99) (by decide) (by decide) o4 o5, if_neg (show ¬ (1 : Int32) = 0 by decide)]
    obtain ⟨hz, ⟨h1, h2, h3⟩ | ⟨h1, K, h2, h3⟩⟩ := h
    · subst h1
      rw [if_pos rfl, if_pos rfl]
      exact ⟨rfl, hz, Or.inl ⟨rfl, h2, h3⟩⟩
    · subst h1
      rw [if_neg (show ¬ (1 : Int32) = 0 by decide), if_neg (show ¬ (1 : Int32) = 0 by decide)]
      refine ⟨rfl, hz, Or.inr ⟨rfl, K, h2, ?_⟩⟩
      exact LD.mk' h3.hK h3.f2 h3.f3 h3.f4 h3.f5 h3.f6 h3.f7 h3.f8 h3.f9 h3.f10 h3.f11 rfl rfl rfl h3.m3 h3.m4 h3.kd h3.kc h3.ko h3.bt h3.bq h3.bf h3.b0 h3.b1 h3.b2 h3.bp (bd_int o4 (by omega)) h3.bs h3.kb h3.kw h3.kx h3.kn h3.kz
  · have e1 : (if a.toInt < 0 then ((-1000001 : Int32), mv) else if b.toInt < a.toInt then (-1000001, mv) else if 99 < b.toInt then (-1000001, mv) else if n.toInt < 0 then (-1000001, mv) else if n.toInt ≤ 99 then (if g = 0 then (-1000002, mv) else (1, sX3_order a b n mv)) else (-1000001, mv)) = (-1000001, mv) := by
      split
      · rfl
      · split
        · rfl
        · split
          · rfl
          · split
            · rfl
            · rw [if_neg (fun q => ok ⟨by omega, by omega, by omega, by omega, q⟩)]
    rw [e1]
    rw [in_eq (v := a) (a := 0) (b := 99) (by decide) (by decide), in_eq (v := b) (a := a.toInt) (b := 99) (Int32.toInt_toInt64 a) (by decide), in_eq (v := n) (a := 0) (b := 99) (by decide) (by decide)]
    by_cases c1 : 0 ≤ a.toInt ∧ a.toInt ≤ 99
    · simp only [if_pos c1, if_neg (show ¬ (1 : Int32) = 0 by decide)]
      by_cases c2 : a.toInt ≤ b.toInt ∧ b.toInt ≤ 99
      · simp only [if_pos c2, if_neg (show ¬ (1 : Int32) = 0 by decide)]
        by_cases c3 : 0 ≤ n.toInt ∧ n.toInt ≤ 99
        · exact absurd ⟨c1.1, c2.1, c2.2, c3.1, c3.2⟩ ok
        · simp only [if_neg c3, if_pos (show (0 : Int32) = 0 from rfl)]; exact ⟨rfl, h⟩
      · simp only [if_neg c2, if_pos (show (0 : Int32) = 0 from rfl)]; exact ⟨rfl, h⟩
    · simp only [if_neg c1, if_pos (show (0 : Int32) = 0 from rfl)]; exact ⟨rfl, h⟩
theorem isOne_all : ∀ w : Fin 7, ∀ a : Fin 7, 1 ≤ w.val → sX9_isOne (nI w.val) (nI a.val) = sX11_isOf (nI w.val) (nI a.val) := by decide +kernel
theorem LD.wayN (h : LD K Y print low high lot market of state f kv mv) {j : Nat} (hj : j < K) : ∃ w : Nat, 1 ≤ w ∧ w ≤ 6 ∧ of (6 * j) = nI w := by
  rcases h.kw j hj with e | ⟨e, -⟩ | ⟨e, -⟩ | e | e | e
  · exact ⟨1, by omega, by omega, e⟩
  · exact ⟨2, by omega, by omega, e⟩
  · exact ⟨3, by omega, by omega, e⟩
  · exact ⟨4, by omega, by omega, e⟩
  · exact ⟨5, by omega, by omega, e⟩
  · exact ⟨6, by omega, by omega, e⟩
theorem as_ok (h : LI g kinds Y print low high lot market of state f kv mv) (k a s : Int32) : (sX10_as k a f kv s).1 = (sX11_as k a s kinds of).1 ∧ (sX10_as k a f kv s).2 = (sX11_as k a s kinds of).2.2 := by
  obtain ⟨K, hK, hf, hkd, hld⟩ := h.kd
  have h6 : (6 : Int32).toInt = 6 := by decide
  unfold sX10_as sX11_as
  simp only [ltd]
  subst hkd
  rcases kind_cases (k := k) hK hf with ⟨j, a1, a2, a3, a4⟩ | ⟨a1, a2, -⟩
  · have hd := hld (by omega)
    rw [a3, a4, if_neg (show ¬ (some j = none) from fun q => by cases q), if_neg (show ¬ (1 : Int32) = 0 by decide)]
    have g0 : (some j).getD 0 = j := rfl
    simp only [g0]
    simp only [Int32.lt_iff_toInt_lt, Int32.le_iff_toInt_le, i_0, h6]
    by_cases hw : 0 ≤ a.toInt ∧ a.toInt ≤ 6
    · rw [in_yes (a := 0) (b := 6) (by decide) (by decide) hw.1 hw.2, if_neg (show ¬ (1 : Int32) = 0 by decide), if_neg (show ¬ a.toInt < 0 by omega), if_pos hw.2]
      obtain ⟨c, hc, rfl⟩ := pu_ex (x := a) (b := 6) hw.1 (by omega)
      obtain ⟨w, w1, w2, w3⟩ := hd.wayN a1
      rw [a2, told_eq (w := 0) (c := 0) rfl (by omega) (by omega), told_eq (w := 2) (c := 2) rfl (by omega) (by omega), hd.kd j a1 0 (by omega), hd.kd j a1 2 (by omega), show 6 * j + 0 = 6 * j from rfl, w3]
      rw [isOne_all ⟨w, by omega⟩ ⟨c, by omega⟩ w1]
      dsimp only
      by_cases q : sX11_isOf (nI w) (nI c) = 0
      · rw [if_pos q, if_pos q]; exact ⟨rfl, rfl⟩
      · rw [if_neg q, if_neg q]; exact ⟨rfl, rfl⟩
    · rw [in_no (a := 0) (b := 6) (by decide) (by decide) (by omega), if_pos (show (0 : Int32) = 0 from rfl)]
      by_cases q : a.toInt < 0
      · rw [if_pos q]; exact ⟨rfl, rfl⟩
      · rw [if_neg q, if_neg (show ¬ a.toInt ≤ 6 by omega)]; exact ⟨rfl, rfl⟩
  · rw [a1, a2, if_pos rfl, if_pos (show (0 : Int32) = 0 from rfl)]
    exact ⟨rfl, rfl⟩
end
section
variable {K Y : Nat} {g kinds print low high lot : Int32} {market of state f : Nat → Int32} {kv : Nat → Nat → Int32} {mv : Nat → Int32}
def AT (cnt tr : Int32) (a b : Nat → Int32) : Prop := cnt = tr ∧ tr_ok tr ∧ ∀ i : Nat, (i : Int) < tr.toInt → a i = b i
theorem size1 (num many place pr : Int32) (tr : Nat → Int32) : sX0_answerAnew (sX0_runBody 20) 0 0 0 1 num many place pr tr = (many + place, 3, upd (upd (upd tr 0 11) 1 10) 2 20) := rfl
theorem size2 (num many place pr : Int32) (tr : Nat → Int32) : sX0_answerAnew (sX0_runBody 20) 0 0 0 2 num many place pr tr = (many + (place + 10 * num), 4, upd (upd (upd (upd tr 0 11) 1 10) 2 21) 3 20) := rfl
theorem size3 (num many place pr : Int32) (tr : Nat → Int32) : sX0_answerAnew (sX0_runBody 20) 0 0 0 3 num many place pr tr = (2 * (many + place), 4, upd (upd (upd (upd tr 0 12) 1 11) 2 10) 3 20) := rfl
theorem size4 (num many place pr : Int32) (tr : Nat → Int32) : sX0_answerAnew (sX0_runBody 20) 0 0 0 4 num many place pr tr = (-(2 * (many + place)), 5, upd (upd (upd (upd (upd tr 0 13) 1 12) 2 11) 3 10) 4 20) := rfl
theorem size5 (num many place pr : Int32) (tr : Nat → Int32) : sX0_answerAnew (sX0_runBody 20) 0 0 0 5 num many place pr tr = (many, 1, upd tr 0 10) := rfl
theorem size6 (num many place pr : Int32) (tr : Nat → Int32) : sX0_answerAnew (sX0_runBody 20) 0 0 0 6 num many place pr tr = (3 * many, 2, upd (upd tr 0 14) 1 10) := rfl
theorem mark1 (num many place pr : Int32) (tr : Nat → Int32) : sX0_answerAnew (sX0_runBody 20) 1 0 0 1 num many place pr tr = (place, 1, upd tr 0 20) := rfl
theorem mark2 (num many place pr : Int32) (tr : Nat → Int32) : sX0_answerAnew (sX0_runBody 20) 1 0 0 2 num many place pr tr = (place + 10 * num, 2, upd (upd tr 0 21) 1 20) := rfl
theorem mark3 (num many place pr : Int32) (tr : Nat → Int32) : sX0_answerAnew (sX0_runBody 20) 1 0 0 3 num many place pr tr = (place, 1, upd tr 0 20) := rfl
theorem mark4 (num many place pr : Int32) (tr : Nat → Int32) : sX0_answerAnew (sX0_runBody 20) 1 0 0 4 num many place pr tr = (place, 1, upd tr 0 20) := rfl
theorem mark5 (num many place pr : Int32) (tr : Nat → Int32) : sX0_answerAnew (sX0_runBody 20) 1 0 0 5 num many place pr tr = (place + pr, 2, upd (upd tr 0 22) 1 20) := rfl
theorem mark6 (num many place pr : Int32) (tr : Nat → Int32) : sX0_answerAnew (sX0_runBody 20) 1 0 0 6 num many place pr tr = (place + pr + 3 * many, 5, upd (upd (upd (upd (upd tr 0 23) 1 22) 2 20) 3 14) 4 10) := rfl
theorem msize1 (k pr : Int32) (of tr : Nat → Int32) : sX11_sizeOf k 1 pr 0 of tr = (sX11_told k 2 of + (k + 0), 3, upd (upd (upd tr 0 11) 1 10) 2 20) := rfl
theorem msize2 (k pr : Int32) (of tr : Nat → Int32) : sX11_sizeOf k 2 pr 0 of tr = (sX11_told k 2 of + (k + 10 * sX11_told k 1 of), 4, upd (upd (upd (upd tr 0 11) 1 10) 2 21) 3 20) := rfl
theorem msize3 (k pr : Int32) (of tr : Nat → Int32) : sX11_sizeOf k 3 pr 0 of tr = (2 * (sX11_told k 2 of + (k + 0)), 4, upd (upd (upd (upd tr 0 12) 1 11) 2 10) 3 20) := rfl
theorem msize4 (k pr : Int32) (of tr : Nat → Int32) : sX11_sizeOf k 4 pr 0 of tr = (-(2 * (sX11_told k 2 of + (k + 0))), 5, upd (upd (upd (upd (upd tr 0 13) 1 12) 2 11) 3 10) 4 20) := rfl
theorem msize5 (k pr : Int32) (of tr : Nat → Int32) : sX11_sizeOf k 5 pr 0 of tr = (sX11_told k 2 of + 0, 1, upd tr 0 10) := rfl
theorem msize6 (k pr : Int32) (of tr : Nat → Int32) : sX11_sizeOf k 6 pr 0 of tr = (3 * sX11_told k 2 of, 2, upd (upd tr 0 14) 1 10) := rfl
theorem mmark1 (k pr : Int32) (of tr : Nat → Int32) : sX11_markOf k 1 pr 0 of tr = (k + 0, 1, upd tr 0 20) := rfl
theorem mmark2 (k pr : Int32) (of tr : Nat → Int32) : sX11_markOf k 2 pr 0 of tr = (k + 10 * sX11_told k 1 of, 2, upd (upd tr 0 21) 1 20) := rfl
theorem mmark3 (k pr : Int32) (of tr : Nat → Int32) : sX11_markOf k 3 pr 0 of tr = (k + 0, 1, upd tr 0 20) := rfl
theorem mmark4 (k pr : Int32) (of tr : Nat → Int32) : sX11_markOf k 4 pr 0 of tr = (k + 0, 1, upd tr 0 20) := rfl
theorem mmark5 (k pr : Int32) (of tr : Nat → Int32) : sX11_markOf k 5 pr 0 of tr = (k + pr, 2, upd (upd tr 0 22) 1 20) := rfl
theorem mmark6 (k pr : Int32) (of tr : Nat → Int32) : sX11_markOf k 6 pr 0 of tr = (k + pr + 3 * sX11_told k 2 of, 5, upd (upd (upd (upd (upd tr 0 23) 1 22) 2 20) 3 14) 4 10) := rfl
def wr (l : List Int32) (tr : Nat → Int32) : Nat → Int32 := fun i => if i < l.length then l.getD i 0 else tr i
theorem AT.wr1 {a b : Nat → Int32} {n : Nat} (hn : n ≤ 16) (h : ∀ i, i < n → a i = b i) : AT (nI n) (nI n) a b :=
  ⟨rfl, ⟨by rw [pu_toInt (by omega)]; omega, by rw [pu_toInt (by omega)]; omega⟩, fun i hi => h i (by rw [pu_toInt (by omega)] at hi; omega)⟩
theorem up_le {a b : Nat → Int32} {n : Nat} {v : Int32} (h : ∀ i, i < n → a i = b i) : ∀ i, i < n + 1 → upd a n v i = upd b n v i := by
  intro i hi
  by_cases e : i = n
  · subst e; rw [pu_us, pu_us]
  · rw [pu_un e, pu_un e]; exact h i (by omega)
theorem ask_ok (h : LI g kinds Y print low high lot market of state f kv mv) (k a : Int32) (ac aw an am ap apr tr : Int32) (ta tb : Nat → Int32) (hat : AT ac tr ta tb) :
    (sX10_ask k a f kv ac aw an am ap apr ta).1 = (sX11_ask k a kinds print tr of tb).1 ∧ AT (sX10_ask k a f kv ac aw an am ap apr ta).2.1 (sX11_ask k a kinds print tr of tb).2.2.1 (sX10_ask k a f kv ac aw an am ap apr ta).2.2.2.2.2.2.2 (sX11_ask k a kinds print tr of tb).2.2.2 := by
  obtain ⟨K, hK, hf, hkd, hld⟩ := h.kd
  unfold sX10_ask sX11_ask
  simp only [ltd]
  subst hkd
  rcases kind_cases (k := k) hK hf with ⟨j, a1, a2, a3, a4⟩ | ⟨a1, a2, -⟩
  · have hd := hld (by omega)
    rw [a3, a4, if_neg (show ¬ (some j = none) from fun q => by cases q), if_neg (show ¬ (1 : Int32) = 0 by decide)]
    have g0 : (some j).getD 0 = j := rfl
    simp only [g0]
    simp only [Int32.lt_iff_toInt_lt, Int32.le_iff_toInt_le, i_0, i_1]
    by_cases hw : 0 ≤ a.toInt ∧ a.toInt ≤ 1
    · rw [in_yes (a := 0) (b := 1) (by decide) (by decide) hw.1 hw.2, if_neg (show ¬ (1 : Int32) = 0 by decide), if_neg (show ¬ a.toInt < 0 by omega), if_pos hw.2]
      subst a2
      have t0 : sX11_told (nI j) 0 of = of (6 * j) := told_eq (c := 0) rfl (by omega) (by omega) of
      have t1 : sX11_told (nI j) 1 of = of (6 * j + 1) := told_eq (c := 1) rfl (by omega) (by omega) of
      have t2 : sX11_told (nI j) 2 of = of (6 * j + 2) := told_eq (c := 2) rfl (by omega) (by omega) of
      have k0 : kv j 0 = of (6 * j) := hd.kd j a1 0 (by omega)
      have k1 := hd.kd j a1 1 (by omega)
      have k2 := hd.kd j a1 2 (by omega)
      unfold sX0_answer
      simp only [ltd]
      rw [t0, k0, k1, k2, hd.f9]
      have n0 : ∀ i, i < 0 → ta i = tb i := fun i hi => by omega
      obtain ⟨c, hc, rfl⟩ := pu_ex (x := a) (b := 1) hw.1 (by omega)
      rcases (show c = 0 ∨ c = 1 by omega) with rfl | rfl
      · rw [if_pos (show nI 0 = 0 from rfl)]
        rw [show nI 0 = (0 : Int32) from rfl]
        rcases hd.kw j a1 with w | ⟨w, -⟩ | ⟨w, -⟩ | w | w | w
        · rw [w, size1, msize1, t2, Int32.add_zero]; exact ⟨rfl, AT.wr1 (n := 3) (by omega) (up_le (up_le (up_le n0)))⟩
        · rw [w, size2, msize2, t2, t1]; exact ⟨rfl, AT.wr1 (n := 4) (by omega) (up_le (up_le (up_le (up_le n0))))⟩
        · rw [w, size3, msize3, t2, Int32.add_zero]; exact ⟨rfl, AT.wr1 (n := 4) (by omega) (up_le (up_le (up_le (up_le n0))))⟩
        · rw [w, size4, msize4, t2, Int32.add_zero]; exact ⟨rfl, AT.wr1 (n := 5) (by omega) (up_le (up_le (up_le (up_le (up_le n0)))))⟩
        · rw [w, size5, msize5, t2, Int32.add_zero]; exact ⟨rfl, AT.wr1 (n := 1) (by omega) (up_le n0)⟩
        · rw [w, size6, msize6, t2]; exact ⟨rfl, AT.wr1 (n := 2) (by omega) (up_le (up_le n0))⟩
      · rw [if_neg (show ¬ nI 1 = 0 by decide)]
        rw [show nI 1 = (1 : Int32) from rfl]
        rcases hd.kw j a1 with w | ⟨w, -⟩ | ⟨w, -⟩ | w | w | w
        · rw [w, mark1, mmark1, Int32.add_zero]; exact ⟨rfl, AT.wr1 (n := 1) (by omega) (up_le n0)⟩
        · rw [w, mark2, mmark2, t1]; exact ⟨rfl, AT.wr1 (n := 2) (by omega) (up_le (up_le n0))⟩
        · rw [w, mark3, mmark3, Int32.add_zero]; exact ⟨rfl, AT.wr1 (n := 1) (by omega) (up_le n0)⟩
        · rw [w, mark4, mmark4, Int32.add_zero]; exact ⟨rfl, AT.wr1 (n := 1) (by omega) (up_le n0)⟩
        · rw [w, mark5, mmark5]; exact ⟨rfl, AT.wr1 (n := 2) (by omega) (up_le (up_le n0))⟩
        · rw [w, mark6, mmark6, t2]; exact ⟨rfl, AT.wr1 (n := 5) (by omega) (up_le (up_le (up_le (up_le (up_le n0)))))⟩
    · rw [in_no (a := 0) (b := 1) (by decide) (by decide) (by omega), if_pos (show (0 : Int32) = 0 from rfl)]
      by_cases q : a.toInt < 0
      · rw [if_pos q]; exact ⟨rfl, hat⟩
      · rw [if_neg q, if_neg (show ¬ a.toInt ≤ 1 by omega)]; exact ⟨rfl, hat⟩
  · rw [a1, a2, if_pos rfl, if_pos (show (0 : Int32) = 0 from rfl)]
    exact ⟨rfl, hat⟩
theorem trace_ok {cnt tr : Int32} {ta tb : Nat → Int32} (h : AT cnt tr ta tb) (k : Int32) : sX10_trace k cnt ta = (sX11_trace k tr tb).1 := by
  obtain ⟨rfl, ⟨h0, h1⟩, h2⟩ := h
  have h16 : (16 : Int32).toInt = 16 := by decide
  have e : (cnt - 1).toInt = cnt.toInt - 1 := by
    have := i_sub (x := cnt) (y := 1) (by rw [i_1]; omega) (by rw [i_1]; omega)
    rw [this, i_1]
  unfold sX10_trace sX11_trace sX0_traceAt
  simp only [ltd, Int32.lt_iff_toInt_lt, Int32.le_iff_toInt_le, i_0, h16]
  by_cases hw : 0 ≤ k.toInt ∧ k.toInt ≤ cnt.toInt - 1
  · rw [in_yes (a := 0) (b := cnt.toInt - 1) (by decide) (by rw [Int32.toInt_toInt64, e]) hw.1 hw.2, if_neg (show ¬ (1 : Int32) = 0 by decide), if_neg (show ¬ k.toInt < 0 by omega), if_neg (show ¬ cnt.toInt ≤ k.toInt by omega), if_neg (show ¬ 16 ≤ k.toInt by omega)]
    refine h2 _ ?_
    show ((k.toInt.toNat : Nat) : Int) < cnt.toInt
    omega
  · rw [in_no (a := 0) (b := cnt.toInt - 1) (by decide) (by rw [Int32.toInt_toInt64, e]) (by omega), if_pos (show (0 : Int32) = 0 from rfl)]
    by_cases q : k.toInt < 0
    · rw [if_pos q]
    · rw [if_neg q, if_pos (show cnt.toInt ≤ k.toInt by omega)]
end
