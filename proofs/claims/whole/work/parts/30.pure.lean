theorem pu_toInt {n : Nat} (h : n < 2147483648) : (nI n).toInt = (n : Int) := by
  exact nI_toInt (by omega)
theorem pu_eq {x : Int32} {n : Nat} (h : x.toInt = (n : Int)) : x = nI n := by
  have hr := i_rng x
  exact Int32.toInt_inj.mp (by rw [h, pu_toInt (by omega)])
theorem pu_ex {x : Int32} {b : Nat} (h0 : 0 ≤ x.toInt) (h1 : x.toInt ≤ b) : ∃ n : Nat, n ≤ b ∧ x = nI n := by
  refine ⟨x.toInt.toNat, by omega, pu_eq (by omega)⟩
theorem pu_inj {a b : Nat} (ha : a < 2147483648) (hb : b < 2147483648) : nI a = nI b ↔ a = b := by
  constructor
  · intro h
    have := congrArg Int32.toInt h
    rw [pu_toInt ha, pu_toInt hb] at this
    omega
  · rintro rfl; rfl
theorem pu_le {a b : Nat} (ha : a < 2147483648) (hb : b < 2147483648) : nI a ≤ nI b ↔ a ≤ b := by
  rw [Int32.le_iff_toInt_le, pu_toInt ha, pu_toInt hb]; omega
theorem pu_lt {a b : Nat} (ha : a < 2147483648) (hb : b < 2147483648) : nI a < nI b ↔ a < b := by
  rw [Int32.lt_iff_toInt_lt, pu_toInt ha, pu_toInt hb]; omega
theorem pu_succ (a : Nat) : nI a + 1 = nI (a + 1) := by unfold nI; rw [Int32.ofNat_add]; rfl
theorem pu_add (a b : Nat) : nI a + nI b = nI (a + b) := by unfold nI; rw [Int32.ofNat_add]
theorem pu_mul (a b : Nat) : nI a * nI b = nI (a * b) := by unfold nI; rw [Int32.ofNat_mul]
theorem pu_nat {a : Nat} (ha : a < 2147483648) : (nI a).toNatClampNeg = a := by
  unfold Int32.toNatClampNeg; rw [pu_toInt ha]; omega
theorem pu_div {a b : Nat} (ha : a < 2147483648) (hb : b < 2147483648) : nI a / nI b = nI (a / b) := by
  have h := Nat.div_le_self a b
  have e : (a : Int).tdiv (b : Int) = ((a / b : Nat) : Int) := by
    rw [Int.tdiv_eq_ediv_of_nonneg (Int.natCast_nonneg a)]
    exact (Int.natCast_ediv a b).symm
  apply pu_eq
  rw [Int32.toInt_div, pu_toInt ha, pu_toInt hb, e]
  generalize a / b = q at h
  exact Int.bmod_eq_of_le (by omega) (by omega)
theorem pu_sub {a b : Nat} (h : b ≤ a) : nI a - nI b = nI (a - b) := by
  have : nI a = nI (a - b) + nI b := by rw [pu_add]; congr 1; omega
  rw [this]
  exact Int32.add_sub_cancel _ _
def bs_step (p : Nat → Nat) (b st : Nat) : Nat := if b + st - 1 < 99 ∧ b + st - 1 < p (b + st - 1) then b + st else b
def bs_all (p : Nat → Nat) : Nat := bs_step p (bs_step p (bs_step p (bs_step p (bs_step p (bs_step p (bs_step p 0 64) 32) 16) 8) 4) 2) 1
def bs_good (p : Nat → Nat) (x : Nat) : Prop := x < 99 ∧ x < p x
theorem bs_inv {p : Nat → Nat} (hp : ∀ x y, x ≤ y → p y ≤ p x) {b st : Nat} (h0 : 0 < st) (h1 : ∀ x, x < b → bs_good p x) (h2 : ∀ x, b + 2 * st - 1 ≤ x → ¬ bs_good p x) :
    (∀ x, x < bs_step p b st → bs_good p x) ∧ (∀ x, bs_step p b st + st - 1 ≤ x → ¬ bs_good p x) := by
  unfold bs_step
  split
  · rename_i h
    refine ⟨fun x hx => ?_, fun x hx => h2 x (by omega)⟩
    have := hp x (b + st - 1) (by omega)
    exact ⟨by omega, by omega⟩
  · rename_i h
    refine ⟨h1, fun x hx hg => h ?_⟩
    have := hp (b + st - 1) x (by omega)
    exact ⟨by have := hg.1; omega, by have := hg.2; omega⟩
theorem bs_ok {p : Nat → Nat} (hp : ∀ x y, x ≤ y → p y ≤ p x) : (∀ x, x < bs_all p → bs_good p x) ∧ (∀ x, bs_all p ≤ x → ¬ bs_good p x) := by
  have a0 := bs_inv hp (b := 0) (st := 64) (by omega) (fun x h => by omega) (fun x h g => by have := g.1; omega)
  have a1 := bs_inv hp (b := bs_step p 0 64) (st := 32) (by omega) a0.1 (fun x h => a0.2 x (by omega))
  have a2 := bs_inv hp (st := 16) (by omega) a1.1 (fun x h => a1.2 x (by omega))
  have a3 := bs_inv hp (st := 8) (by omega) a2.1 (fun x h => a2.2 x (by omega))
  have a4 := bs_inv hp (st := 4) (by omega) a3.1 (fun x h => a3.2 x (by omega))
  have a5 := bs_inv hp (st := 2) (by omega) a4.1 (fun x h => a4.2 x (by omega))
  have a6 := bs_inv hp (st := 1) (by omega) a5.1 (fun x h => a5.2 x (by omega))
  exact ⟨a6.1, fun x h => a6.2 x (by unfold bs_all at h; omega)⟩
def bs_off (p : Nat → Nat) (x : Nat) : Nat := if x ≤ p x then p x - x else x - p x
def bs_best (p : Nat → Nat) (r : Nat) : Prop := r < 100 ∧ (∀ x, x < r → bs_off p r < bs_off p x) ∧ ∀ x, x < 100 → bs_off p r ≤ bs_off p x
theorem bs_uniq {p : Nat → Nat} {r q : Nat} (h1 : bs_best p r) (h2 : bs_best p q) : r = q := by
  have a := h1.2.1 q
  have b := h2.2.1 r
  have c := h1.2.2 q h2.1
  have d := h2.2.2 r h1.1
  omega
def bs_res (p : Nat → Nat) (b : Nat) : Nat := if b = 0 then 0 else if b - p b = 0 then b else if p (b - 1) - (b - 1) ≤ b - p b then b - 1 else b
theorem bs_res_ok {p : Nat → Nat} (hp : ∀ x y, x ≤ y → p y ≤ p x) (h99 : ∀ x, p x ≤ 99) {b : Nat} (h1 : ∀ x, x < b → bs_good p x) (h2 : ∀ x, b ≤ x → ¬ bs_good p x) : bs_best p (bs_res p b) := by
  have hb : b ≤ 99 := by
    rcases Nat.lt_or_ge 99 b with h | h
    · have := (h1 99 h).1; omega
    · exact h
  have hpb : p b ≤ b := by
    have := h2 b (Nat.le_refl _)
    unfold bs_good at this
    have := h99 b
    omega
  have up : ∀ x, b ≤ x → bs_off p x = x - p x ∧ p x ≤ b := by
    intro x hx
    have := hp b x hx
    unfold bs_off
    split <;> omega
  have dn : ∀ x, x < b → bs_off p x = p x - x ∧ x < p x := by
    intro x hx
    have := (h1 x hx).2
    unfold bs_off
    split <;> omega
  unfold bs_res
  split
  · rename_i h0
    subst h0
    have u0 := up 0 (by omega)
    refine ⟨by omega, fun x hx => by omega, fun x hx => by omega⟩
  · rename_i h0
    have db := dn (b - 1) (by omega)
    have ub := up b (Nat.le_refl _)
    have lows : ∀ x, x < b - 1 → p (b - 1) - (b - 1) < bs_off p x := by
      intro x hx
      have := dn x (by omega)
      have := hp x (b - 1) (by omega)
      omega
    have highs : ∀ x, b ≤ x → b - p b ≤ bs_off p x := by
      intro x hx
      have := up x hx
      have := hp b x hx
      omega
    split
    · refine ⟨by omega, fun x hx => ?_, fun x hx => by omega⟩
      have := dn x hx
      omega
    · split
      · refine ⟨by omega, fun x hx => by have := lows x hx; omega, fun x hx => ?_⟩
        rcases Nat.lt_or_ge x b with h | h
        · rcases Nat.lt_or_ge x (b - 1) with h' | h'
          · have := lows x h'; omega
          · have : x = b - 1 := by omega
            subst this; omega
        · have := highs x h; omega
      · refine ⟨by omega, fun x hx => ?_, fun x hx => ?_⟩
        · rcases Nat.lt_or_ge x (b - 1) with h' | h'
          · have := lows x h'; omega
          · have : x = b - 1 := by omega
            subst this; omega
        · rcases Nat.lt_or_ge x b with h | h
          · rcases Nat.lt_or_ge x (b - 1) with h' | h'
            · have := lows x h'; omega
            · have : x = b - 1 := by omega
              subst this; omega
          · have := highs x h; omega
def sc_all (p : Nat → Nat) : Nat → Nat × Nat
  | 0 => (1000, 0)
  | n + 1 => if (sc_all p n).1 ≤ bs_off p n then sc_all p n else (bs_off p n, n)
theorem sc_ok {p : Nat → Nat} (h99 : ∀ x, p x ≤ 99) : ∀ n, 0 < n → n ≤ 100 → (sc_all p n).2 < n ∧ (sc_all p n).1 = bs_off p (sc_all p n).2 ∧ (∀ x, x < (sc_all p n).2 → (sc_all p n).1 < bs_off p x) ∧ ∀ x, x < n → (sc_all p n).1 ≤ bs_off p x := by
  intro n
  induction n with
  | zero => intro h; omega
  | succ n ih =>
    intro _ hn
    have ho : bs_off p n ≤ 99 := by unfold bs_off; have := h99 n; split <;> omega
    rcases Nat.eq_zero_or_pos n with h0 | h0
    · subst h0
      have e : sc_all p 1 = (bs_off p 0, 0) := by
        unfold sc_all sc_all
        rw [if_neg (by simp only; omega)]
      rw [e]
      refine ⟨by simp, rfl, fun x hx => by simp at hx, fun x hx => ?_⟩
      have : x = 0 := by omega
      subst this; exact Nat.le_refl _
    · obtain ⟨i1, i2, i3, i4⟩ := ih h0 (by omega)
      unfold sc_all
      split
      · rename_i h
        refine ⟨by omega, i2, i3, fun x hx => ?_⟩
        rcases Nat.lt_or_ge x n with h' | h'
        · exact i4 x h'
        · have : x = n := by omega
          subst this; exact h
      · rename_i h
        refine ⟨by simp, rfl, fun x hx => ?_, fun x hx => ?_⟩
        · have := i4 x hx
          show bs_off p n < bs_off p x
          omega
        · show bs_off p n ≤ bs_off p x
          rcases Nat.lt_or_ge x n with h' | h'
          · have := i4 x h'; omega
          · have : x = n := by omega
            subst this; exact Nat.le_refl _
theorem sc_best {p : Nat → Nat} (h99 : ∀ x, p x ≤ 99) : bs_best p (sc_all p 100).2 := by
  obtain ⟨i1, i2, i3, i4⟩ := sc_ok h99 100 (by omega) (by omega)
  exact ⟨i1, fun x hx => by rw [← i2]; exact i3 x hx, fun x hx => by rw [← i2]; exact i4 x hx⟩
theorem bs_sc {p : Nat → Nat} (hp : ∀ x y, x ≤ y → p y ≤ p x) (h99 : ∀ x, p x ≤ 99) : bs_res p (bs_all p) = (sc_all p 100).2 :=
  bs_uniq (bs_res_ok hp h99 (bs_ok hp).1 (bs_ok hp).2) (sc_best h99)
theorem ltd {α β : Type} (v : α) (f : α → β) : lt v f = f v := Eq.trans (Eq.refl (f v)) (Eq.refl (f v))
theorem loop_run {S R : Type} (L : Nat → Nat → S → R) (st : Nat → S) (K : Nat) (h : ∀ n i, i < K → L (n + 1) i (st i) = L n (i + 1) (st (i + 1))) : ∀ N i, i ≤ K → L (N + i) 0 (st 0) = L N i (st i) := by
  intro N i
  induction i generalizing N with
  | zero => intro _; rfl
  | succ i ih =>
    intro hi
    have := ih (N + 1) (by omega)
    rw [show N + (i + 1) = N + 1 + i by omega, this]
    exact h N i (by omega)
def bd (x : Int32) (n : Nat) : Prop := ∃ k : Nat, k ≤ n ∧ x = nI k
theorem bd_mono {x : Int32} {n m : Nat} (h : bd x n) (hn : n ≤ m) : bd x m := by
  obtain ⟨k, h1, h2⟩ := h; exact ⟨k, by omega, h2⟩
theorem bd_int {x : Int32} {n : Nat} (h0 : 0 ≤ x.toInt) (h1 : x.toInt ≤ (n : Int)) : bd x n := by
  obtain ⟨k, h, e⟩ := pu_ex h0 h1; exact ⟨k, h, e⟩
theorem bd_to {x : Int32} {n : Nat} (h : bd x n) (hn : n < 2147483648) : 0 ≤ x.toInt ∧ x.toInt ≤ (n : Int) := by
  obtain ⟨k, h1, rfl⟩ := h; rw [pu_toInt (by omega)]; omega
theorem pu_vs {α : Type} {f : Nat → α} {k : Nat} {v : α} : va_up f k v k = v := by unfold va_up; rw [if_pos rfl]
theorem pu_vn {α : Type} {f : Nat → α} {k j : Nat} {v : α} (h : j ≠ k) : va_up f k v j = f j := by unfold va_up; rw [if_neg h]
theorem pu_us {f : Nat → Int32} {k : Nat} {v : Int32} : upd f k v k = v := by unfold upd; rw [if_pos rfl]
theorem pu_un {f : Nat → Int32} {k j : Nat} {v : Int32} (h : j ≠ k) : upd f k v j = f j := by unfold upd; rw [if_neg h]
def Sg (t : Nat → Int32) : Nat → Int32
  | 0 => 0
  | n + 1 => Sg t n + t n
theorem Sg_add (a b : Nat → Int32) : ∀ n, Sg (fun j => a j + b j) n = Sg a n + Sg b n := by
  intro n
  induction n with
  | zero => rfl
  | succ n ih =>
    show Sg (fun j => a j + b j) n + (a n + b n) = (Sg a n + a n) + (Sg b n + b n)
    rw [ih]
    ac_rfl
theorem Sg_congr {a b : Nat → Int32} : ∀ n, (∀ j, j < n → a j = b j) → Sg a n = Sg b n := by
  intro n
  induction n with
  | zero => intro _; rfl
  | succ n ih =>
    intro h
    show Sg a n + a n = Sg b n + b n
    rw [ih (fun j hj => h j (by omega)), h n (by omega)]
def SgN (t : Nat → Nat) : Nat → Nat
  | 0 => 0
  | n + 1 => SgN t n + t n
theorem Sg_nI {a : Nat → Int32} {t : Nat → Nat} : ∀ n, (∀ j, j < n → a j = nI (t j)) → Sg a n = nI (SgN t n) := by
  intro n
  induction n with
  | zero => intro _; rfl
  | succ n ih =>
    intro h
    show Sg a n + a n = nI (SgN t n + t n)
    rw [ih (fun j hj => h j (by omega)), h n (by omega), pu_add]
theorem SgN_le {t : Nat → Nat} {b : Nat} : ∀ n, (∀ j, j < n → t j ≤ b) → SgN t n ≤ n * b := by
  intro n
  induction n with
  | zero => intro _; exact Nat.zero_le _
  | succ n ih =>
    intro h
    have h1 := ih (fun j hj => h j (by omega))
    have h2 := h n (by omega)
    show SgN t n + t n ≤ (n + 1) * b
    rw [Nat.succ_mul]; omega
theorem SgN_mono {t r : Nat → Nat} : ∀ n, (∀ j, j < n → t j ≤ r j) → SgN t n ≤ SgN r n := by
  intro n
  induction n with
  | zero => intro _; exact Nat.le_refl _
  | succ n ih =>
    intro h
    have h1 := ih (fun j hj => h j (by omega))
    have h2 := h n (by omega)
    show SgN t n + t n ≤ SgN r n + r n
    omega
def gU (f v : Nat → Int32) : Int32 := sX9_guessBy (v 0) (v 1) (f 6) (f 7) (f 8) (f 9)
def tU (f : Nat → Int32) (kv : Nat → Nat → Int32) (j : Nat) : Int32 := if kv j 7 = 0 then (if kv j 0 = 6 then 0 else kv j 2 * sX1_pigsBy (gU f (kv j)) (kv j)) else 0
def wU (f : Nat → Int32) (kv : Nat → Nat → Int32) (j : Nat) : Nat → Int32 := if kv j 7 = 0 then (if kv j 0 = 6 then kv j else upd (kv j) 8 (sX1_pigsBy (gU f (kv j)) (kv j))) else kv j
def tW (x : Int32) (kv : Nat → Nat → Int32) (j : Nat) : Int32 := if kv j 7 = 0 then (if kv j 0 = 6 then kv j 2 * sX1_pigsBy x (kv j) else 0) else 0
def wW (x : Int32) (kv : Nat → Nat → Int32) (j : Nat) : Nat → Int32 := if kv j 7 = 0 then (if kv j 0 = 6 then upd (kv j) 8 (sX1_pigsBy x (kv j)) else kv j) else kv j
def rowsTo (i : Nat) (w kv : Nat → Nat → Int32) : Nat → Nat → Int32 := fun j => if j < i then w j else kv j
theorem rowsTo_at {i : Nat} {w kv : Nat → Nat → Int32} : rowsTo i w kv i = kv i := by unfold rowsTo; rw [if_neg (by omega)]
theorem rowsTo_up {i : Nat} {w kv : Nat → Nat → Int32} {v : Nat → Int32} (h : w i = v) : va_up (rowsTo i w kv) i v = rowsTo (i + 1) w kv := by
  funext j
  unfold va_up rowsTo
  by_cases h1 : j = i
  · subst h1; rw [if_pos rfl, if_pos (by omega), h]
  · rw [if_neg h1]
    by_cases h2 : j < i
    · rw [if_pos h2, if_pos (by omega)]
    · rw [if_neg h2, if_neg (by omega)]
theorem rowsTo_id {i : Nat} {w kv : Nat → Nat → Int32} (h : w i = kv i) : rowsTo (i + 1) w kv = rowsTo i w kv := by
  funext j
  unfold rowsTo
  by_cases h1 : j = i
  · subst h1; rw [if_pos (by omega), if_neg (by omega), h]
  · by_cases h2 : j < i
    · rw [if_pos h2, if_pos (by omega)]
    · rw [if_neg h2, if_neg (by omega)]
theorem c_go {K i : Nat} (hK : K ≤ 5) (hi : i < K) : ¬ nI K ≤ nI i ∧ ¬ (5 : Int32) ≤ nI i := by
  refine ⟨fun h => ?_, fun h => ?_⟩
  · have := (pu_le (by omega) (by omega)).mp h; omega
  · have h : nI 5 ≤ nI i := h
    have := (pu_le (by omega) (by omega)).mp h; omega
theorem bringUnwise_eq {f : Nat → Int32} {kv : Nat → Nat → Int32} {K : Nat} (hK : K ≤ 5) (hf : f 2 = nI K) : sX2_bringUnwise f kv = (Sg (tU f kv) K, rowsTo K (wU f kv) kv) := by
  have key := loop_run (fun n i (s : Int32 × (Nat → Nat → Int32)) => lX2_bringUnwise_4 f n (nI i) s.1 s.2) (fun i => (Sg (tU f kv) i, rowsTo i (wU f kv) kv)) K ?_ (6 - K) K (Nat.le_refl _)
  · have e : lX2_bringUnwise_4 f 6 0 0 kv = (nI K, Sg (tU f kv) K, rowsTo K (wU f kv) kv) := by
      have e0 : rowsTo 0 (wU f kv) kv = kv := by funext j; unfold rowsTo; rw [if_neg (by omega)]
      have key' : lX2_bringUnwise_4 f (6 - K + K) (nI 0) (Sg (tU f kv) 0) (rowsTo 0 (wU f kv) kv) = lX2_bringUnwise_4 f (6 - K) (nI K) (Sg (tU f kv) K) (rowsTo K (wU f kv) kv) := key
      rw [show 6 - K + K = 6 by omega, e0] at key'
      refine key'.trans ?_
      rw [show 6 - K = (5 - K) + 1 by omega]
      unfold lX2_bringUnwise_4
      rw [if_pos (by rw [hf]; exact Int32.le_refl _)]
    unfold sX2_bringUnwise lt
    rw [e]
  · intro n i hi
    show lX2_bringUnwise_4 f (n + 1) (nI i) (Sg (tU f kv) i) (rowsTo i (wU f kv) kv) = lX2_bringUnwise_4 f n (nI (i + 1)) (Sg (tU f kv) i + tU f kv i) (rowsTo (i + 1) (wU f kv) kv)
    rw [lX2_bringUnwise_4]
    obtain ⟨g1, g2⟩ := c_go hK hi
    rw [hf, if_neg g1, if_neg g2, pu_nat (show i < 2147483648 by omega), rowsTo_at, pu_succ]
    unfold tU
    unfold lt
    by_cases h1 : kv i 7 = 0
    · rw [if_pos h1, if_pos h1]
      by_cases h2 : kv i 0 = 6
      · rw [if_pos h2, if_pos h2, rowsTo_id (by unfold wU; rw [if_pos h1, if_pos h2])]
        rw [Int32.add_zero]
      · rw [if_neg h2, if_neg h2]
        have hw : wU f kv i = upd (kv i) 8 (sX1_pigsBy (gU f (kv i)) (kv i)) := by unfold wU; rw [if_pos h1, if_neg h2]
        have hr := rowsTo_up (kv := kv) hw
        unfold gU at hr
        unfold gU
        simp only [hr, pu_vs]
        rfl
    · rw [if_neg h1, if_neg h1, rowsTo_id (by unfold wU; rw [if_neg h1]), Int32.add_zero]
theorem bringWise_eq {f : Nat → Int32} {kv : Nat → Nat → Int32} {K : Nat} (x : Int32) (hK : K ≤ 5) (hf : f 2 = nI K) : sX2_bringWise x f kv = (Sg (tW x kv) K, rowsTo K (wW x kv) kv) := by
  have key := loop_run (fun n i (s : Int32 × (Nat → Nat → Int32)) => lX2_bringWise_4 x f n (nI i) s.1 s.2) (fun i => (Sg (tW x kv) i, rowsTo i (wW x kv) kv)) K ?_ (6 - K) K (Nat.le_refl _)
  · have e : lX2_bringWise_4 x f 6 0 0 kv = (nI K, Sg (tW x kv) K, rowsTo K (wW x kv) kv) := by
      have e0 : rowsTo 0 (wW x kv) kv = kv := by funext j; unfold rowsTo; rw [if_neg (by omega)]
      have key' : lX2_bringWise_4 x f (6 - K + K) (nI 0) (Sg (tW x kv) 0) (rowsTo 0 (wW x kv) kv) = lX2_bringWise_4 x f (6 - K) (nI K) (Sg (tW x kv) K) (rowsTo K (wW x kv) kv) := key
      rw [show 6 - K + K = 6 by omega, e0] at key'
      refine key'.trans ?_
      rw [show 6 - K = (5 - K) + 1 by omega]
      unfold lX2_bringWise_4
      rw [if_pos (by rw [hf]; exact Int32.le_refl _)]
    unfold sX2_bringWise lt
    rw [e]
  · intro n i hi
    show lX2_bringWise_4 x f (n + 1) (nI i) (Sg (tW x kv) i) (rowsTo i (wW x kv) kv) = lX2_bringWise_4 x f n (nI (i + 1)) (Sg (tW x kv) i + tW x kv i) (rowsTo (i + 1) (wW x kv) kv)
    rw [lX2_bringWise_4]
    obtain ⟨g1, g2⟩ := c_go hK hi
    rw [hf, if_neg g1, if_neg g2, pu_nat (show i < 2147483648 by omega), rowsTo_at, pu_succ]
    unfold tW
    unfold lt
    by_cases h1 : kv i 7 = 0
    · rw [if_pos h1, if_pos h1]
      by_cases h2 : kv i 0 = 6
      · rw [if_pos h2, if_pos h2]
        have hw : wW x kv i = upd (kv i) 8 (sX1_pigsBy x (kv i)) := by unfold wW; rw [if_pos h1, if_pos h2]
        have hr := rowsTo_up (kv := kv) hw
        simp only [hr, pu_vs]
        rfl
      · rw [if_neg h2, if_neg h2, rowsTo_id (by unfold wW; rw [if_pos h1, if_neg h2])]
        rw [Int32.add_zero]
    · rw [if_neg h1, if_neg h1, rowsTo_id (by unfold wW; rw [if_neg h1]), Int32.add_zero]
theorem clamp_eq (v : Int32) : (if 0 < (if v < 99 then v else 99) then (if v < 99 then v else 99) else 0) = sX11_between v 0 99 := by
  unfold sX11_between
  have h0 : (0 : Int32).toInt = 0 := by decide
  have h9 : (99 : Int32).toInt = 99 := by decide
  simp only [Int32.lt_iff_toInt_lt, Int32.le_iff_toInt_le, h0, h9]
  by_cases a : v.toInt < 99
  · simp only [if_pos a]
    by_cases b : 0 < v.toInt
    · rw [if_pos b, if_pos (by omega), if_pos (by omega)]
    · rw [if_neg b]
      by_cases d : 0 ≤ v.toInt
      · rw [if_pos d, if_pos (by omega)]
        exact Int32.toInt_inj.mp (by omega)
      · rw [if_neg d]
  · simp only [if_neg a, h9]
    rw [if_pos (by omega), if_pos (by omega)]
    by_cases b : v.toInt ≤ 99
    · rw [if_pos b]
      exact Int32.toInt_inj.mp (by omega)
    · rw [if_neg b]
theorem between_bd (v : Int32) : bd (sX11_between v 0 99) 99 := by
  unfold sX11_between
  have h0 : (0 : Int32).toInt = 0 := by decide
  have h9 : (99 : Int32).toInt = 99 := by decide
  split
  · rename_i a
    split
    · rename_i b
      exact bd_int (by have := i_le h0 rfl a; omega) (by have := i_le rfl h9 b; omega)
    · exact ⟨99, by omega, rfl⟩
  · exact ⟨0, by omega, rfl⟩
theorem between_id {v : Int32} (h : bd v 99) : sX11_between v 0 99 = v := by
  obtain ⟨k, h1, rfl⟩ := h
  unfold sX11_between
  rw [if_pos (show (0 : Int32) ≤ nI k from (pu_le (a := 0) (by omega) (by omega)).mpr (by omega)), if_pos (show nI k ≤ (99 : Int32) from (pu_le (b := 99) (by omega) (by omega)).mpr (by omega))]
theorem guess_eq {w k a b d t : Int32} (hw : w = 1 ∨ w = 2 ∨ w = 3 ∨ w = 4 ∨ w = 5) (ht : bd t 99) : sX9_guessBy w k a b d t = if w = 5 then t else sX11_guessBy w k a b d := by
  rcases hw with rfl | rfl | rfl | rfl | rfl
  · exact clamp_eq a
  · exact clamp_eq _
  · exact clamp_eq _
  · exact clamp_eq _
  · refine (clamp_eq t).trans ?_
    rw [between_id ht]; rfl
theorem guess_bd (w k a b d : Int32) : bd (sX11_guessBy w k a b d) 99 := between_bd _
theorem told_eq {j c : Nat} {w : Int32} (hw : w = nI c) (hj : j < 5) (hc : c < 6) (of : Nat → Int32) : sX11_told (nI j) w of = of (6 * j + c) := by
  subst hw
  unfold sX11_told
  rw [show (6 : Int32) = nI 6 from rfl, pu_mul, pu_add, pu_nat (by omega)]
theorem isOut_eq {j : Nat} (hj : j < 5) (state : Nat → Int32) : sX11_isOut (nI j) state = if state (12 + j) = 1 then 1 else 0 := by
  unfold sX11_isOut
  rw [show (12 : Int32) = nI 12 from rfl, pu_add, pu_nat (by omega)]
def LD (K Y : Nat) (print low high lot : Int32) (market of state : Nat → Int32) (f : Nat → Int32) (kv : Nat → Nat → Int32) (mv : Nat → Int32) : Prop := (K ≤ 5) ∧ (f 2 = nI K) ∧ (f 3 = market 0) ∧ (f 4 = market 1) ∧ (f 5 = market 2) ∧ (f 6 = state 0) ∧ (f 7 = state 1) ∧ (f 8 = state 2) ∧ (f 9 = print) ∧ (f 10 = state 3) ∧ (f 11 = state 6) ∧ (mv 0 = low) ∧ (mv 1 = high) ∧ (mv 2 = lot) ∧ (mv 3 = state 4) ∧ (mv 4 = state 5) ∧ (∀ j, j < K → ∀ c, c < 6 → kv j c = of (6 * j + c)) ∧ (∀ j, j < K → kv j 6 = state (7 + j)) ∧ (∀ j, j < K → kv j 7 = state (12 + j)) ∧ (bd (market 0) 99) ∧ (∃ d : Nat, 1 ≤ d ∧ d ≤ 20 ∧ market 1 = nI d) ∧ (bd (market 2) 20) ∧ (bd (state 0) 99) ∧ (bd (state 1) 99) ∧ (bd (state 2) 99) ∧ (bd print 99) ∧ (bd lot 99) ∧ (bd (state 4) (99 * Y)) ∧ (∀ j, j < K → bd (of (6 * j + 2)) 40 ∧ bd (of (6 * j + 3)) 9 ∧ bd (of (6 * j + 4)) 20 ∧ bd (of (6 * j + 5)) 99) ∧ (∀ j, j < K → of (6 * j) = 1 ∨ (of (6 * j) = 2 ∧ (of (6 * j + 1) = 1 ∨ of (6 * j + 1) = 2 ∨ of (6 * j + 1) = 3)) ∨ (of (6 * j) = 3 ∧ bd (of (6 * j + 1)) 9) ∨ of (6 * j) = 4 ∨ of (6 * j) = 5 ∨ of (6 * j) = 6) ∧ (∀ j, j < K → -4300 ≤ (state (7 + j)).toInt ∧ (state (7 + j)).toInt ≤ 999 + 20493 * Y) ∧ (∀ j, j < K → state (12 + j) = 0 → 0 ≤ (state (7 + j)).toInt) ∧ (∀ j, j < 5 → kv j 7 = 0 ∨ kv j 7 = 1)
theorem LD.hK {K Y : Nat} {print low high lot : Int32} {market of state : Nat → Int32} {f : Nat → Int32} {kv : Nat → Nat → Int32} {mv : Nat → Int32} (h : LD K Y print low high lot market of state f kv mv) : K ≤ 5 := h.1
theorem LD.f2 {K Y : Nat} {print low high lot : Int32} {market of state : Nat → Int32} {f : Nat → Int32} {kv : Nat → Nat → Int32} {mv : Nat → Int32} (h : LD K Y print low high lot market of state f kv mv) : f 2 = nI K := h.2.1
theorem LD.f3 {K Y : Nat} {print low high lot : Int32} {market of state : Nat → Int32} {f : Nat → Int32} {kv : Nat → Nat → Int32} {mv : Nat → Int32} (h : LD K Y print low high lot market of state f kv mv) : f 3 = market 0 := h.2.2.1
theorem LD.f4 {K Y : Nat} {print low high lot : Int32} {market of state : Nat → Int32} {f : Nat → Int32} {kv : Nat → Nat → Int32} {mv : Nat → Int32} (h : LD K Y print low high lot market of state f kv mv) : f 4 = market 1 := h.2.2.2.1
theorem LD.f5 {K Y : Nat} {print low high lot : Int32} {market of state : Nat → Int32} {f : Nat → Int32} {kv : Nat → Nat → Int32} {mv : Nat → Int32} (h : LD K Y print low high lot market of state f kv mv) : f 5 = market 2 := h.2.2.2.2.1
theorem LD.f6 {K Y : Nat} {print low high lot : Int32} {market of state : Nat → Int32} {f : Nat → Int32} {kv : Nat → Nat → Int32} {mv : Nat → Int32} (h : LD K Y print low high lot market of state f kv mv) : f 6 = state 0 := h.2.2.2.2.2.1
theorem LD.f7 {K Y : Nat} {print low high lot : Int32} {market of state : Nat → Int32} {f : Nat → Int32} {kv : Nat → Nat → Int32} {mv : Nat → Int32} (h : LD K Y print low high lot market of state f kv mv) : f 7 = state 1 := h.2.2.2.2.2.2.1
theorem LD.f8 {K Y : Nat} {print low high lot : Int32} {market of state : Nat → Int32} {f : Nat → Int32} {kv : Nat → Nat → Int32} {mv : Nat → Int32} (h : LD K Y print low high lot market of state f kv mv) : f 8 = state 2 := h.2.2.2.2.2.2.2.1
theorem LD.f9 {K Y : Nat} {print low high lot : Int32} {market of state : Nat → Int32} {f : Nat → Int32} {kv : Nat → Nat → Int32} {mv : Nat → Int32} (h : LD K Y print low high lot market of state f kv mv) : f 9 = print := h.2.2.2.2.2.2.2.2.1
theorem LD.f10 {K Y : Nat} {print low high lot : Int32} {market of state : Nat → Int32} {f : Nat → Int32} {kv : Nat → Nat → Int32} {mv : Nat → Int32} (h : LD K Y print low high lot market of state f kv mv) : f 10 = state 3 := h.2.2.2.2.2.2.2.2.2.1
theorem LD.f11 {K Y : Nat} {print low high lot : Int32} {market of state : Nat → Int32} {f : Nat → Int32} {kv : Nat → Nat → Int32} {mv : Nat → Int32} (h : LD K Y print low high lot market of state f kv mv) : f 11 = state 6 := h.2.2.2.2.2.2.2.2.2.2.1
theorem LD.m0 {K Y : Nat} {print low high lot : Int32} {market of state : Nat → Int32} {f : Nat → Int32} {kv : Nat → Nat → Int32} {mv : Nat → Int32} (h : LD K Y print low high lot market of state f kv mv) : mv 0 = low := h.2.2.2.2.2.2.2.2.2.2.2.1
theorem LD.m1 {K Y : Nat} {print low high lot : Int32} {market of state : Nat → Int32} {f : Nat → Int32} {kv : Nat → Nat → Int32} {mv : Nat → Int32} (h : LD K Y print low high lot market of state f kv mv) : mv 1 = high := h.2.2.2.2.2.2.2.2.2.2.2.2.1
theorem LD.m2 {K Y : Nat} {print low high lot : Int32} {market of state : Nat → Int32} {f : Nat → Int32} {kv : Nat → Nat → Int32} {mv : Nat → Int32} (h : LD K Y print low high lot market of state f kv mv) : mv 2 = lot := h.2.2.2.2.2.2.2.2.2.2.2.2.2.1
theorem LD.m3 {K Y : Nat} {print low high lot : Int32} {market of state : Nat → Int32} {f : Nat → Int32} {kv : Nat → Nat → Int32} {mv : Nat → Int32} (h : LD K Y print low high lot market of state f kv mv) : mv 3 = state 4 := h.2.2.2.2.2.2.2.2.2.2.2.2.2.2.1
theorem LD.m4 {K Y : Nat} {print low high lot : Int32} {market of state : Nat → Int32} {f : Nat → Int32} {kv : Nat → Nat → Int32} {mv : Nat → Int32} (h : LD K Y print low high lot market of state f kv mv) : mv 4 = state 5 := h.2.2.2.2.2.2.2.2.2.2.2.2.2.2.2.1
theorem LD.kd {K Y : Nat} {print low high lot : Int32} {market of state : Nat → Int32} {f : Nat → Int32} {kv : Nat → Nat → Int32} {mv : Nat → Int32} (h : LD K Y print low high lot market of state f kv mv) : ∀ j, j < K → ∀ c, c < 6 → kv j c = of (6 * j + c) := h.2.2.2.2.2.2.2.2.2.2.2.2.2.2.2.2.1
theorem LD.kc {K Y : Nat} {print low high lot : Int32} {market of state : Nat → Int32} {f : Nat → Int32} {kv : Nat → Nat → Int32} {mv : Nat → Int32} (h : LD K Y print low high lot market of state f kv mv) : ∀ j, j < K → kv j 6 = state (7 + j) := h.2.2.2.2.2.2.2.2.2.2.2.2.2.2.2.2.2.1
theorem LD.ko {K Y : Nat} {print low high lot : Int32} {market of state : Nat → Int32} {f : Nat → Int32} {kv : Nat → Nat → Int32} {mv : Nat → Int32} (h : LD K Y print low high lot market of state f kv mv) : ∀ j, j < K → kv j 7 = state (12 + j) := h.2.2.2.2.2.2.2.2.2.2.2.2.2.2.2.2.2.2.1
theorem LD.bt {K Y : Nat} {print low high lot : Int32} {market of state : Nat → Int32} {f : Nat → Int32} {kv : Nat → Nat → Int32} {mv : Nat → Int32} (h : LD K Y print low high lot market of state f kv mv) : bd (market 0) 99 := h.2.2.2.2.2.2.2.2.2.2.2.2.2.2.2.2.2.2.2.1
theorem LD.bq {K Y : Nat} {print low high lot : Int32} {market of state : Nat → Int32} {f : Nat → Int32} {kv : Nat → Nat → Int32} {mv : Nat → Int32} (h : LD K Y print low high lot market of state f kv mv) : ∃ d : Nat, 1 ≤ d ∧ d ≤ 20 ∧ market 1 = nI d := h.2.2.2.2.2.2.2.2.2.2.2.2.2.2.2.2.2.2.2.2.1
theorem LD.bf {K Y : Nat} {print low high lot : Int32} {market of state : Nat → Int32} {f : Nat → Int32} {kv : Nat → Nat → Int32} {mv : Nat → Int32} (h : LD K Y print low high lot market of state f kv mv) : bd (market 2) 20 := h.2.2.2.2.2.2.2.2.2.2.2.2.2.2.2.2.2.2.2.2.2.1
theorem LD.b0 {K Y : Nat} {print low high lot : Int32} {market of state : Nat → Int32} {f : Nat → Int32} {kv : Nat → Nat → Int32} {mv : Nat → Int32} (h : LD K Y print low high lot market of state f kv mv) : bd (state 0) 99 := h.2.2.2.2.2.2.2.2.2.2.2.2.2.2.2.2.2.2.2.2.2.2.1
theorem LD.b1 {K Y : Nat} {print low high lot : Int32} {market of state : Nat → Int32} {f : Nat → Int32} {kv : Nat → Nat → Int32} {mv : Nat → Int32} (h : LD K Y print low high lot market of state f kv mv) : bd (state 1) 99 := h.2.2.2.2.2.2.2.2.2.2.2.2.2.2.2.2.2.2.2.2.2.2.2.1
theorem LD.b2 {K Y : Nat} {print low high lot : Int32} {market of state : Nat → Int32} {f : Nat → Int32} {kv : Nat → Nat → Int32} {mv : Nat → Int32} (h : LD K Y print low high lot market of state f kv mv) : bd (state 2) 99 := h.2.2.2.2.2.2.2.2.2.2.2.2.2.2.2.2.2.2.2.2.2.2.2.2.1
theorem LD.bp {K Y : Nat} {print low high lot : Int32} {market of state : Nat → Int32} {f : Nat → Int32} {kv : Nat → Nat → Int32} {mv : Nat → Int32} (h : LD K Y print low high lot market of state f kv mv) : bd print 99 := h.2.2.2.2.2.2.2.2.2.2.2.2.2.2.2.2.2.2.2.2.2.2.2.2.2.1
theorem LD.bl {K Y : Nat} {print low high lot : Int32} {market of state : Nat → Int32} {f : Nat → Int32} {kv : Nat → Nat → Int32} {mv : Nat → Int32} (h : LD K Y print low high lot market of state f kv mv) : bd lot 99 := h.2.2.2.2.2.2.2.2.2.2.2.2.2.2.2.2.2.2.2.2.2.2.2.2.2.2.1
theorem LD.bs {K Y : Nat} {print low high lot : Int32} {market of state : Nat → Int32} {f : Nat → Int32} {kv : Nat → Nat → Int32} {mv : Nat → Int32} (h : LD K Y print low high lot market of state f kv mv) : bd (state 4) (99 * Y) := h.2.2.2.2.2.2.2.2.2.2.2.2.2.2.2.2.2.2.2.2.2.2.2.2.2.2.2.1
theorem LD.kb {K Y : Nat} {print low high lot : Int32} {market of state : Nat → Int32} {f : Nat → Int32} {kv : Nat → Nat → Int32} {mv : Nat → Int32} (h : LD K Y print low high lot market of state f kv mv) : ∀ j, j < K → bd (of (6 * j + 2)) 40 ∧ bd (of (6 * j + 3)) 9 ∧ bd (of (6 * j + 4)) 20 ∧ bd (of (6 * j + 5)) 99 := h.2.2.2.2.2.2.2.2.2.2.2.2.2.2.2.2.2.2.2.2.2.2.2.2.2.2.2.2.1
theorem LD.kw {K Y : Nat} {print low high lot : Int32} {market of state : Nat → Int32} {f : Nat → Int32} {kv : Nat → Nat → Int32} {mv : Nat → Int32} (h : LD K Y print low high lot market of state f kv mv) : ∀ j, j < K → of (6 * j) = 1 ∨ (of (6 * j) = 2 ∧ (of (6 * j + 1) = 1 ∨ of (6 * j + 1) = 2 ∨ of (6 * j + 1) = 3)) ∨ (of (6 * j) = 3 ∧ bd (of (6 * j + 1)) 9) ∨ of (6 * j) = 4 ∨ of (6 * j) = 5 ∨ of (6 * j) = 6 := h.2.2.2.2.2.2.2.2.2.2.2.2.2.2.2.2.2.2.2.2.2.2.2.2.2.2.2.2.2.1
theorem LD.kx {K Y : Nat} {print low high lot : Int32} {market of state : Nat → Int32} {f : Nat → Int32} {kv : Nat → Nat → Int32} {mv : Nat → Int32} (h : LD K Y print low high lot market of state f kv mv) : ∀ j, j < K → -4300 ≤ (state (7 + j)).toInt ∧ (state (7 + j)).toInt ≤ 999 + 20493 * Y := h.2.2.2.2.2.2.2.2.2.2.2.2.2.2.2.2.2.2.2.2.2.2.2.2.2.2.2.2.2.2.1
theorem LD.kn {K Y : Nat} {print low high lot : Int32} {market of state : Nat → Int32} {f : Nat → Int32} {kv : Nat → Nat → Int32} {mv : Nat → Int32} (h : LD K Y print low high lot market of state f kv mv) : ∀ j, j < K → state (12 + j) = 0 → 0 ≤ (state (7 + j)).toInt := h.2.2.2.2.2.2.2.2.2.2.2.2.2.2.2.2.2.2.2.2.2.2.2.2.2.2.2.2.2.2.2.1
theorem LD.kz {K Y : Nat} {print low high lot : Int32} {market of state : Nat → Int32} {f : Nat → Int32} {kv : Nat → Nat → Int32} {mv : Nat → Int32} (h : LD K Y print low high lot market of state f kv mv) : ∀ j, j < 5 → kv j 7 = 0 ∨ kv j 7 = 1 := h.2.2.2.2.2.2.2.2.2.2.2.2.2.2.2.2.2.2.2.2.2.2.2.2.2.2.2.2.2.2.2.2
theorem LD.mk' {K Y : Nat} {print low high lot : Int32} {market of state : Nat → Int32} {f : Nat → Int32} {kv : Nat → Nat → Int32} {mv : Nat → Int32} (hK : K ≤ 5) (f2 : f 2 = nI K) (f3 : f 3 = market 0) (f4 : f 4 = market 1) (f5 : f 5 = market 2) (f6 : f 6 = state 0) (f7 : f 7 = state 1) (f8 : f 8 = state 2) (f9 : f 9 = print) (f10 : f 10 = state 3) (f11 : f 11 = state 6) (m0 : mv 0 = low) (m1 : mv 1 = high) (m2 : mv 2 = lot) (m3 : mv 3 = state 4) (m4 : mv 4 = state 5) (kd : ∀ j, j < K → ∀ c, c < 6 → kv j c = of (6 * j + c)) (kc : ∀ j, j < K → kv j 6 = state (7 + j)) (ko : ∀ j, j < K → kv j 7 = state (12 + j)) (bt : bd (market 0) 99) (bq : ∃ d : Nat, 1 ≤ d ∧ d ≤ 20 ∧ market 1 = nI d) (bf : bd (market 2) 20) (b0 : bd (state 0) 99) (b1 : bd (state 1) 99) (b2 : bd (state 2) 99) (bp : bd print 99) (bl : bd lot 99) (bs : bd (state 4) (99 * Y)) (kb : ∀ j, j < K → bd (of (6 * j + 2)) 40 ∧ bd (of (6 * j + 3)) 9 ∧ bd (of (6 * j + 4)) 20 ∧ bd (of (6 * j + 5)) 99) (kw : ∀ j, j < K → of (6 * j) = 1 ∨ (of (6 * j) = 2 ∧ (of (6 * j + 1) = 1 ∨ of (6 * j + 1) = 2 ∨ of (6 * j + 1) = 3)) ∨ (of (6 * j) = 3 ∧ bd (of (6 * j + 1)) 9) ∨ of (6 * j) = 4 ∨ of (6 * j) = 5 ∨ of (6 * j) = 6) (kx : ∀ j, j < K → -4300 ≤ (state (7 + j)).toInt ∧ (state (7 + j)).toInt ≤ 999 + 20493 * Y) (kn : ∀ j, j < K → state (12 + j) = 0 → 0 ≤ (state (7 + j)).toInt) (kz : ∀ j, j < 5 → kv j 7 = 0 ∨ kv j 7 = 1) : LD K Y print low high lot market of state f kv mv := ⟨hK, f2, f3, f4, f5, f6, f7, f8, f9, f10, f11, m0, m1, m2, m3, m4, kd, kc, ko, bt, bq, bf, b0, b1, b2, bp, bl, bs, kb, kw, kx, kn, kz⟩
section
variable {K Y : Nat} {print low high lot : Int32} {market of state f : Nat → Int32} {kv : Nat → Nat → Int32} {mv : Nat → Int32}
theorem LD.way (h : LD K Y print low high lot market of state f kv mv) {j : Nat} (hj : j < K) : of (6 * j) = 6 ∨ (¬ of (6 * j) = 6 ∧ (of (6 * j) = 1 ∨ of (6 * j) = 2 ∨ of (6 * j) = 3 ∨ of (6 * j) = 4 ∨ of (6 * j) = 5)) := by
  rcases h.kw j hj with e | ⟨e, -⟩ | ⟨e, -⟩ | e | e | e <;> rw [e] <;> decide
theorem LD.out (h : LD K Y print low high lot market of state f kv mv) {j : Nat} (hj : j < K) : (kv j 7 = 0 ∧ sX11_isOut (nI j) state = 0) ∨ (¬ kv j 7 = 0 ∧ ¬ sX11_isOut (nI j) state = 0) := by
  have hK := h.hK
  rw [isOut_eq (by omega), ← h.ko j hj]
  rcases h.kz j (by omega) with e | e
  · rw [e]; exact Or.inl ⟨rfl, if_neg (by decide)⟩
  · rw [e, if_pos rfl]; exact Or.inr ⟨by decide, by decide⟩
def gM (print : Int32) (of state : Nat → Int32) (x : Int32) (j : Nat) : Int32 := if of (6 * j) = 6 then x else if of (6 * j) = 5 then print else sX11_guessBy (of (6 * j)) (of (6 * j + 1)) (state 0) (state 1) (state 2)
theorem guessOf_eq {j : Nat} (hj : j < 5) (x : Int32) : sX11_guessOf (nI j) x print of state = gM print of state x j := by
  unfold sX11_guessOf gM
  have t0 : sX11_told (nI j) 0 of = of (6 * j) := told_eq (c := 0) rfl hj (by omega) of
  have t1 : sX11_told (nI j) 1 of = of (6 * j + 1) := told_eq (c := 1) rfl hj (by omega) of
  simp only [ltd, t0, t1]
theorem pigsBy_eq {j : Nat} (hj : j < 5) (x : Int32) : sX11_pigsBy (nI j) x of = of (6 * j + 3) + of (6 * j + 4) * x / 10 := by
  unfold sX11_pigsBy
  have t3 : sX11_told (nI j) 3 of = of (6 * j + 3) := told_eq (c := 3) rfl hj (by omega) of
  have t4 : sX11_told (nI j) 4 of = of (6 * j + 4) := told_eq (c := 4) rfl hj (by omega) of
  simp only [ltd, t3, t4]
def pM (print : Int32) (of state : Nat → Int32) (x : Int32) (j : Nat) : Int32 := of (6 * j + 3) + of (6 * j + 4) * gM print of state x j / 10
def tM (print : Int32) (of state : Nat → Int32) (x : Int32) (j : Nat) : Int32 := if sX11_isOut (nI j) state = 0 then of (6 * j + 2) * pM print of state x j else 0
theorem pigsWith_eq {K : Nat} (hK : K ≤ 5) (x : Int32) : sX11_pigsWith x (nI K) print of state = Sg (tM print of state x) K := by
  have key := loop_run (fun n i (s : Int32) => lX11_pigsWith_4 x (nI K) print of state n (nI i) s) (fun i => Sg (tM print of state x) i) K ?_ (6 - K) K (Nat.le_refl _)
  · have e : lX11_pigsWith_4 x (nI K) print of state 6 0 0 = (nI K, Sg (tM print of state x) K) := by
      have key' : lX11_pigsWith_4 x (nI K) print of state (6 - K + K) (nI 0) (Sg (tM print of state x) 0) = lX11_pigsWith_4 x (nI K) print of state (6 - K) (nI K) (Sg (tM print of state x) K) := key
      rw [show 6 - K + K = 6 by omega] at key'
      refine key'.trans ?_
      rw [show 6 - K = (5 - K) + 1 by omega]
      unfold lX11_pigsWith_4
      rw [if_pos (Int32.le_refl _)]
    unfold sX11_pigsWith lt
    rw [e]
  · intro n i hi
    show lX11_pigsWith_4 x (nI K) print of state (n + 1) (nI i) (Sg (tM print of state x) i) = lX11_pigsWith_4 x (nI K) print of state n (nI (i + 1)) (Sg (tM print of state x) i + tM print of state x i)
    rw [lX11_pigsWith_4]
    obtain ⟨g1, g2⟩ := c_go hK hi
    have t2 : sX11_told (nI i) 2 of = of (6 * i + 2) := told_eq (c := 2) rfl (by omega) (by omega) of
    rw [if_neg g1, t2, guessOf_eq (by omega), pu_succ]
    simp only [ltd]
    rw [pigsBy_eq (j := i) (by omega)]
    rfl
theorem LD.term (h : LD K Y print low high lot market of state f kv mv) (x : Int32) {j : Nat} (hj : j < K) : tU f kv j + tW x kv j = tM print of state x j := by
  have d := h.kd j hj
  have e0 : kv j 0 = of (6 * j) := d 0 (by omega)
  have e1 := d 1 (by omega)
  have e2 := d 2 (by omega)
  have e3 := d 3 (by omega)
  have e4 := d 4 (by omega)
  unfold tU tW tM
  rcases h.out hj with ⟨a, b⟩ | ⟨a, b⟩
  · rw [if_pos a, if_pos a, if_pos b]
    unfold pM gM sX1_pigsBy gU
    rcases h.way hj with w | ⟨w, w'⟩
    · rw [e0, if_pos w, if_pos w, if_pos w, e2, e3, e4, Int32.zero_add]
    · rw [e0, if_neg w, if_neg w, if_neg w, e2, e3, e4, e1, Int32.add_zero, h.f6, h.f7, h.f8, h.f9, guess_eq w' h.bp]
  · rw [if_neg a, if_neg a, if_neg b]; rfl
theorem LD.sum (h : LD K Y print low high lot market of state f kv mv) (x : Int32) : Sg (tU f kv) K + Sg (tW x kv) K = Sg (tM print of state x) K := by
  rw [← Sg_add]
  exact Sg_congr K (fun j hj => h.term x hj)
def KW (kv kv' : Nat → Nat → Int32) : Prop := ∀ j c, (c ≠ 8 ∨ ¬ (kv j 7 = 0 ∧ kv j 0 = 6)) → kv' j c = kv j c
theorem KW.rfl' {kv : Nat → Nat → Int32} : KW kv kv := fun _ _ _ => rfl
theorem KW.trans' {a b d : Nat → Nat → Int32} (h : KW a b) (g : KW b d) : KW a d := by
  intro j c hc
  rw [← h j c hc]
  refine g j c ?_
  rw [h j 7 (Or.inl (by omega)), h j 0 (Or.inl (by omega))]
  exact hc
theorem KW.tW {kv kv' : Nat → Nat → Int32} (h : KW kv kv') (x : Int32) : CPigRoundsLaw_law_r3646_aba7cd.tW x kv' = CPigRoundsLaw_law_r3646_aba7cd.tW x kv := by
  funext j
  unfold CPigRoundsLaw_law_r3646_aba7cd.tW sX1_pigsBy
  rw [h j 7 (Or.inl (by omega)), h j 0 (Or.inl (by omega)), h j 2 (Or.inl (by omega)), h j 3 (Or.inl (by omega)), h j 4 (Or.inl (by omega))]
theorem KW.rows {kv : Nat → Nat → Int32} (x : Int32) (K : Nat) : KW kv (rowsTo K (wW x kv) kv) := by
  intro j c hc
  unfold rowsTo wW
  split
  · split
    · rename_i a
      split
      · rename_i b
        rcases hc with hc | hc
        · exact pu_un hc
        · exact absurd ⟨a, b⟩ hc
      · rfl
    · rfl
  · rfl
theorem price_eq (h : LD K Y print low high lot market of state f kv mv) {f' : Nat → Int32} (e3 : f' 3 = f 3) (e4 : f' 4 = f 4) (g : Int32) : sX2_priceOf g f' = sX11_priceOf g market := by
  obtain ⟨d, h1, h2, h3⟩ := h.bq
  unfold sX2_priceOf sX11_priceOf lt
  rw [e3, e4, h.f3, h.f4, h3, if_pos (show (1 : Int32) ≤ nI d from (pu_le (a := 1) (by omega) (by omega)).mpr h1)]
  dsimp only
  generalize market 0 - g / nI d = v
  have h0 : (0 : Int32).toInt = 0 := by decide
  simp only [Int32.lt_iff_toInt_lt, Int32.le_iff_toInt_le, h0]
  by_cases a : 0 < v.toInt
  · rw [if_pos a, if_pos (by omega)]
  · rw [if_neg a]
    by_cases b : 0 ≤ v.toInt
    · rw [if_pos b]
      exact Int32.toInt_inj.mp (by omega)
    · rw [if_neg b]
end
section
variable {K Y : Nat} {print low high lot : Int32} {market of state f : Nat → Int32} {kv : Nat → Nat → Int32} {mv : Nat → Int32}
theorem prod_eq {m b s x : Nat} (hm : m ≤ 40) (hb : b ≤ 9) (hs : s ≤ 20) (hx : x ≤ 99) : nI m * (nI b + nI s * nI x / 10) = nI (m * (b + s * x / 10)) ∧ m * (b + s * x / 10) ≤ 8280 ∧ nI b + nI s * nI x / 10 = nI (b + s * x / 10) ∧ b + s * x / 10 ≤ 207 := by
  have h1 : s * x ≤ 20 * 99 := Nat.mul_le_mul hs hx
  have h2 : b + s * x / 10 ≤ 207 := by omega
  have h3 : m * (b + s * x / 10) ≤ 40 * 207 := Nat.mul_le_mul hm h2
  have e : nI b + nI s * nI x / 10 = nI (b + s * x / 10) := by
    rw [pu_mul, show (10 : Int32) = nI 10 from rfl, pu_div (by omega) (by omega), pu_add]
  exact ⟨by rw [e, pu_mul], h3, e, h2⟩
theorem LD.gbd (h : LD K Y print low high lot market of state f kv mv) {x : Int32} (hx : bd x 99) (j : Nat) : bd (gM print of state x j) 99 := by
  unfold gM
  split
  · exact hx
  · split
    · exact h.bp
    · exact guess_bd _ _ _ _ _
theorem LD.pbd (h : LD K Y print low high lot market of state f kv mv) {x : Int32} (hx : bd x 99) {j : Nat} (hj : j < K) : bd (pM print of state x j) 207 ∧ bd (tM print of state x j) 8280 := by
  obtain ⟨g, hg, eg⟩ := h.gbd hx j
  obtain ⟨⟨m, hm, em⟩, ⟨b, hb, eb⟩, ⟨s, hs, es⟩, -⟩ := h.kb j hj
  obtain ⟨e1, h1, e2, h2⟩ := prod_eq hm hb hs hg
  unfold tM pM
  rw [eg, em, eb, es, e1, e2]
  refine ⟨⟨_, h2, rfl⟩, ?_⟩
  split
  · exact ⟨_, h1, rfl⟩
  · exact ⟨0, by omega, rfl⟩
theorem Sg_bd {t : Nat → Int32} {b : Nat} : ∀ n, (∀ j, j < n → bd (t j) b) → bd (Sg t n) (n * b) := by
  intro n
  induction n with
  | zero => intro _; exact ⟨0, Nat.zero_le _, rfl⟩
  | succ n ih =>
    intro h
    obtain ⟨k, hk, ek⟩ := ih (fun j hj => h j (by omega))
    obtain ⟨r, hr, er⟩ := h n (by omega)
    exact ⟨k + r, by rw [Nat.succ_mul]; omega, by show Sg t n + t n = _; rw [ek, er, pu_add]⟩
theorem LD.all (h : LD K Y print low high lot market of state f kv mv) {x : Int32} (hx : bd x 99) : bd (Sg (tM print of state x) K) 41400 :=
  bd_mono (Sg_bd K (fun j hj => (h.pbd hx hj).2)) (by have := h.hK; omega)
def tWn (kv : Nat → Nat → Int32) (x j : Nat) : Nat := if kv j 7 = 0 then (if kv j 0 = 6 then (kv j 2).toNatClampNeg * ((kv j 3).toNatClampNeg + (kv j 4).toNatClampNeg * x / 10) else 0) else 0
theorem tWn_mono (kv : Nat → Nat → Int32) {x y : Nat} (hxy : x ≤ y) (j : Nat) : tWn kv x j ≤ tWn kv y j := by
  unfold tWn
  split
  · split
    · refine Nat.mul_le_mul (Nat.le_refl _) (Nat.add_le_add_left (Nat.div_le_div_right (Nat.mul_le_mul (Nat.le_refl _) hxy)) _)
    · exact Nat.le_refl _
  · exact Nat.le_refl _
theorem LD.wise (h : LD K Y print low high lot market of state f kv mv) {x : Nat} (hx : x ≤ 99) : Sg (tW (nI x) kv) K = nI (SgN (tWn kv x) K) ∧ SgN (tWn kv x) K ≤ 41400 := by
  have key : ∀ j, j < K → tW (nI x) kv j = nI (tWn kv x j) ∧ tWn kv x j ≤ 8280 := by
    intro j hj
    have d := h.kd j hj
    obtain ⟨⟨m, hm, em⟩, ⟨b, hb, eb⟩, ⟨s, hs, es⟩, -⟩ := h.kb j hj
    obtain ⟨e1, h1, e2, h2⟩ := prod_eq hm hb hs hx
    unfold tW tWn sX1_pigsBy
    rw [d 2 (by omega), d 3 (by omega), d 4 (by omega), em, eb, es, pu_nat (by omega), pu_nat (by omega), pu_nat (by omega)]
    split
    · split
      · exact ⟨e1, h1⟩
      · exact ⟨rfl, by omega⟩
    · exact ⟨rfl, by omega⟩
  refine ⟨Sg_nI K (fun j hj => (key j hj).1), ?_⟩
  have := SgN_le (t := tWn kv x) (b := 8280) K (fun j hj => (key j hj).2)
  have := h.hK
  omega
theorem LD.unwise (h : LD K Y print low high lot market of state f kv mv) : bd (Sg (tU f kv) K) 41400 := by
  have hK := h.hK
  refine bd_mono (Sg_bd (b := 8280) K (fun j hj => ?_)) (by omega)
  have ht := h.term 0 hj
  have hb := (h.pbd ⟨0, by omega, rfl⟩ hj).2
  by_cases hw : kv j 0 = 6
  · unfold tU
    split
    · exact ⟨0, by omega, rfl⟩
    · exact ⟨0, by omega, rfl⟩
  · have e : tW 0 kv j = 0 := by
      unfold tW
      split
      · rfl
      · rfl
    rw [e, Int32.add_zero] at ht
    rw [ht]
    exact hb
theorem mprice_eq {t d q : Nat} (ht : t ≤ 99) (hd : d ≤ 20) (hq : q < 2147483648) (e0 : market 0 = nI t) (e1 : market 1 = nI d) : sX11_priceOf (nI q) market = nI (t - q / d) := by
  unfold sX11_priceOf
  have hle := Nat.div_le_self q d
  rw [ltd, e0, e1, pu_div hq (by omega)]
  generalize q / d = r at hle
  by_cases a : r ≤ t
  · rw [pu_sub a, if_pos (show (0 : Int32) ≤ nI (t - r) from (pu_le (a := 0) (by omega) (by omega)).mpr (by omega))]
  · rw [if_neg]
    · rw [show t - r = 0 by omega]; rfl
    · rw [Int32.le_iff_toInt_le, Int32.toInt_sub, pu_toInt (by omega), pu_toInt (by omega)]
      rw [Int.bmod_eq_of_le (by omega) (by omega)]
      have h0 : (0 : Int32).toInt = 0 := by decide
      omega
def prN (t d u : Nat) (kv : Nat → Nat → Int32) (K x : Nat) : Nat := t - (u + SgN (tWn kv x) K) / d
theorem prN_anti (t d u : Nat) (kv : Nat → Nat → Int32) (K : Nat) : ∀ x y, x ≤ y → prN t d u kv K y ≤ prN t d u kv K x := by
  intro x y hxy
  unfold prN
  refine Nat.sub_le_sub_left (Nat.div_le_div_right (Nat.add_le_add_left (SgN_mono K (fun j _ => tWn_mono kv hxy j)) _)) _
theorem LD.priceAt (h : LD K Y print low high lot market of state f kv mv) {t d u : Nat} (ht : t ≤ 99) (hd : d ≤ 20) (hu : u ≤ 41400) (e0 : market 0 = nI t) (e1 : market 1 = nI d) (eu : Sg (tU f kv) K = nI u) {x : Nat} (hx : x ≤ 99) : sX11_priceOf (Sg (tU f kv) K + Sg (tW (nI x) kv) K) market = nI (prN t d u kv K x) := by
  obtain ⟨ew, hw⟩ := h.wise hx
  rw [eu, ew, pu_add]
  exact mprice_eq ht hd (by omega) e0 e1
theorem LD.mwise (h : LD K Y print low high lot market of state f kv mv) {t d u : Nat} (ht : t ≤ 99) (hd : d ≤ 20) (hu : u ≤ 41400) (e0 : market 0 = nI t) (e1 : market 1 = nI d) (eu : Sg (tU f kv) K = nI u) : sX11_wiseGuess (nI K) print market of state = nI (sc_all (prN t d u kv K) 100).2 := by
  have h99 : ∀ x, prN t d u kv K x ≤ 99 := fun x => Nat.le_trans (Nat.sub_le _ _) ht
  have key := loop_run (fun n i (s : Int32 × Int32) => lX11_wiseGuess_8 (nI K) print market of state n (nI i) s.1 s.2) (fun i => (nI (sc_all (prN t d u kv K) i).1, nI (sc_all (prN t d u kv K) i).2)) 100 ?_ 1 100 (Nat.le_refl _)
  · have key' : lX11_wiseGuess_8 (nI K) print market of state 101 0 1000 0 = lX11_wiseGuess_8 (nI K) print market of state 1 (nI 100) (nI (sc_all (prN t d u kv K) 100).1) (nI (sc_all (prN t d u kv K) 100).2) := key
    unfold sX11_wiseGuess
    rw [ltd, key']
    unfold lX11_wiseGuess_8
    rw [if_pos (show (100 : Int32) ≤ nI 100 from Int32.le_refl _)]
  · intro n i hi
    show lX11_wiseGuess_8 (nI K) print market of state (n + 1) (nI i) (nI (sc_all (prN t d u kv K) i).1) (nI (sc_all (prN t d u kv K) i).2) = lX11_wiseGuess_8 (nI K) print market of state n (nI (i + 1)) (nI (sc_all (prN t d u kv K) (i + 1)).1) (nI (sc_all (prN t d u kv K) (i + 1)).2)
    have hpr := h99 i
    have hoff : bs_off (prN t d u kv K) i ≤ 99 := by unfold bs_off; split <;> omega
    have hleast : (sc_all (prN t d u kv K) i).1 ≤ 1000 := by
      rcases Nat.eq_zero_or_pos i with z | z
      · subst z; exact Nat.le_refl _
      · obtain ⟨i1, i2, -, -⟩ := sc_ok h99 i z (by omega)
        have : bs_off (prN t d u kv K) (sc_all (prN t d u kv K) i).2 ≤ 99 := by
          unfold bs_off
          have := h99 (sc_all (prN t d u kv K) i).2
          split <;> omega
        omega
    rw [lX11_wiseGuess_8]
    rw [if_neg (show ¬ (100 : Int32) ≤ nI i from fun q => by have := (pu_le (a := 100) (by omega) (by omega)).mp q; omega)]
    simp only [ltd]
    rw [pigsWith_eq h.hK, ← h.sum, h.priceAt ht hd hu e0 e1 eu (by omega), pu_succ]
    have eo : (if (0 : Int32) ≤ nI (prN t d u kv K i) - nI i then nI (prN t d u kv K i) - nI i else -(nI (prN t d u kv K i) - nI i)) = nI (bs_off (prN t d u kv K) i) := by
      unfold bs_off
      by_cases a : i ≤ prN t d u kv K i
      · rw [if_pos a, pu_sub a, if_pos (show (0 : Int32) ≤ nI (prN t d u kv K i - i) from (pu_le (a := 0) (by omega) (by omega)).mpr (by omega))]
      · rw [if_neg a]
        have e9 : nI (prN t d u kv K i) - nI i = -(nI i - nI (prN t d u kv K i)) := Int32.neg_sub.symm
        rw [e9, pu_sub (by omega), Int32.neg_neg, if_neg]
        rw [Int32.le_iff_toInt_le, Int32.toInt_neg, pu_toInt (by omega)]
        rw [Int.bmod_eq_of_le (by omega) (by omega)]
        have h0 : (0 : Int32).toInt = 0 := by decide
        omega
    rw [eo]
    have ec : (nI (sc_all (prN t d u kv K) i).1 ≤ nI (bs_off (prN t d u kv K) i)) ↔ ((sc_all (prN t d u kv K) i).1 ≤ bs_off (prN t d u kv K) i) := pu_le (by omega) (by omega)
    simp only [ec]
    have es : sc_all (prN t d u kv K) (i + 1) = if (sc_all (prN t d u kv K) i).1 ≤ bs_off (prN t d u kv K) i then sc_all (prN t d u kv K) i else (bs_off (prN t d u kv K) i, i) := rfl
    rw [es]
    by_cases c : (sc_all (prN t d u kv K) i).1 ≤ bs_off (prN t d u kv K) i
    · rw [if_pos c, if_pos c, if_pos c]
    · rw [if_neg c, if_neg c, if_neg c]
end
section
variable {K Y : Nat} {print low high lot : Int32} {market of state f : Nat → Int32} {kv : Nat → Nat → Int32} {mv : Nat → Int32}
theorem below_add {b st : Nat} (h : 0 < st) : nI b - 1 + nI st = nI (b + st - 1) := by
  have e : nI (b + st - 1) + 1 = nI b + nI st := by rw [pu_succ, pu_add, show b + st - 1 + 1 = b + st by omega]
  have e2 : nI (b + st - 1) = nI b + nI st - 1 := by rw [← e, Int32.add_sub_cancel]
  rw [e2, Int32.sub_eq_add_neg, Int32.sub_eq_add_neg]
  ac_rfl
def CW (K : Nat) (market f0 f : Nat → Int32) (kv0 : Nat → Nat → Int32) (t d u : Nat) : Prop := (K ≤ 5) ∧ (f 2 = nI K) ∧ (∀ g : Int32, sX2_priceOf g f = sX11_priceOf g market) ∧ (∀ x : Nat, x ≤ 99 → sX11_priceOf (nI u + Sg (tW (nI x) kv0) K) market = nI (prN t d u kv0 K x)) ∧ (t ≤ 99)
theorem CW.hK {K : Nat} {market f0 f : Nat → Int32} {kv0 : Nat → Nat → Int32} {t d u : Nat} (h : CW K market f0 f kv0 t d u) : K ≤ 5 := h.1
theorem CW.f2 {K : Nat} {market f0 f : Nat → Int32} {kv0 : Nat → Nat → Int32} {t d u : Nat} (h : CW K market f0 f kv0 t d u) : f 2 = nI K := h.2.1
theorem CW.pr {K : Nat} {market f0 f : Nat → Int32} {kv0 : Nat → Nat → Int32} {t d u : Nat} (h : CW K market f0 f kv0 t d u) : ∀ g : Int32, sX2_priceOf g f = sX11_priceOf g market := h.2.2.1
theorem CW.at' {K : Nat} {market f0 f : Nat → Int32} {kv0 : Nat → Nat → Int32} {t d u : Nat} (h : CW K market f0 f kv0 t d u) : ∀ x : Nat, x ≤ 99 → sX11_priceOf (nI u + Sg (tW (nI x) kv0) K) market = nI (prN t d u kv0 K x) := h.2.2.2.1
theorem CW.ht {K : Nat} {market f0 f : Nat → Int32} {kv0 : Nat → Nat → Int32} {t d u : Nat} (h : CW K market f0 f kv0 t d u) : t ≤ 99 := h.2.2.2.2
theorem CW.mk' {K : Nat} {market f0 f : Nat → Int32} {kv0 : Nat → Nat → Int32} {t d u : Nat} (hK : K ≤ 5) (f2 : f 2 = nI K) (pr : ∀ g : Int32, sX2_priceOf g f = sX11_priceOf g market) (at' : ∀ x : Nat, x ≤ 99 → sX11_priceOf (nI u + Sg (tW (nI x) kv0) K) market = nI (prN t d u kv0 K x)) (ht : t ≤ 99) : CW K market f0 f kv0 t d u := ⟨hK, f2, pr, at', ht⟩
theorem CW.bring {f0 f market : Nat → Int32} {kv0 kv' : Nat → Nat → Int32} {t d u : Nat} (h : CW K market f0 f kv0 t d u) (hk : KW kv0 kv') {x : Nat} (hx : x ≤ 99) : sX2_priceOf (nI u + (sX2_bringWise (nI x) f kv').1) f = nI (prN t d u kv0 K x) ∧ KW kv0 (sX2_bringWise (nI x) f kv').2 := by
  rw [bringWise_eq (nI x) h.hK h.f2]
  refine ⟨?_, hk.trans' (KW.rows (nI x) K)⟩
  show sX2_priceOf (nI u + Sg (tW (nI x) kv') K) f = _
  rw [h.pr, hk.tW, h.at' x hx]
theorem CW.step {f0 f market : Nat → Int32} {kv0 kv' : Nat → Nat → Int32} {t d u : Nat} (h : CW K market f0 f kv0 t d u) (hk : KW kv0 kv') {b st : Nat} (hst : 0 < st) (hst2 : st ≤ 64) (hb : b ≤ 128) (n : Nat) :
    ∃ kv'', KW kv0 kv'' ∧ lX2_wiseGuess_5 (nI u) f (n + 1) (nI st) (nI b - 1) kv' = lX2_wiseGuess_5 (nI u) f n (nI (st / 2)) (nI (bs_step (prN t d u kv0 K) b st) - 1) kv'' := by
  rw [lX2_wiseGuess_5]
  rw [if_neg (show ¬ nI st ≤ (0 : Int32) from fun q => by have := (pu_le (b := 0) (by omega) (by omega)).mp q; omega)]
  simp only [ltd]
  rw [below_add hst, show (2 : Int32) = nI 2 from rfl, pu_div (by omega) (by omega)]
  unfold bs_step
  by_cases a : b + st - 1 < 99
  · rw [if_neg (show ¬ (99 : Int32) ≤ nI (b + st - 1) from fun q => by have := (pu_le (a := 99) (by omega) (by omega)).mp q; omega)]
    obtain ⟨e1, e2⟩ := h.bring hk (x := b + st - 1) (by omega)
    rw [e1]
    have hp : prN t d u kv0 K (b + st - 1) ≤ 99 := Nat.le_trans (Nat.sub_le _ _) h.ht
    by_cases g : prN t d u kv0 K (b + st - 1) ≤ b + st - 1
    · rw [if_pos ((pu_le (by omega) (by omega)).mpr g), if_neg (by omega)]
      exact ⟨_, e2, rfl⟩
    · rw [if_neg (fun q => g ((pu_le (by omega) (by omega)).mp q)), if_pos (by omega)]
      refine ⟨_, e2, ?_⟩
      show lX2_wiseGuess_5 (nI u) f n (nI (st / 2)) (nI (b + st - 1)) _ = _
      have : nI (b + st) - 1 = nI (b + st - 1) := by rw [show (1 : Int32) = nI 1 from rfl, pu_sub (by omega)]
      rw [this]
  · rw [if_pos (show (99 : Int32) ≤ nI (b + st - 1) from (pu_le (a := 99) (by omega) (by omega)).mpr (by omega)), if_neg (by omega)]
    exact ⟨kv', hk, rfl⟩
theorem bs_le {p : Nat → Nat} {b st : Nat} : bs_step p b st ≤ b + st := by unfold bs_step; split <;> omega
theorem CW.loop {f0 f market : Nat → Int32} {kv0 kv' : Nat → Nat → Int32} {t d u : Nat} (h : CW K market f0 f kv0 t d u) (hk : KW kv0 kv') : ∃ kv'', KW kv0 kv'' ∧ lX2_wiseGuess_5 (nI u) f 65 64 (-1) kv' = (0, nI (bs_all (prN t d u kv0 K)) - 1, kv'') := by
  obtain ⟨k1, h1, e1⟩ := h.step hk (b := 0) (st := 64) (by omega) (by omega) (by omega) 64
  have l1 := bs_le (p := prN t d u kv0 K) (b := 0) (st := 64)
  obtain ⟨k2, h2, e2⟩ := h.step h1 (b := bs_step (prN t d u kv0 K) 0 64) (st := 32) (by omega) (by omega) (by omega) 63
  have l2 := bs_le (p := prN t d u kv0 K) (b := bs_step (prN t d u kv0 K) 0 64) (st := 32)
  obtain ⟨k3, h3, e3⟩ := h.step h2 (st := 16) (by omega) (by omega) (Nat.le_trans l2 (by omega)) 62
  have l3 := Nat.le_trans (bs_le (p := prN t d u kv0 K) (st := 16)) (Nat.add_le_add_right l2 _)
  obtain ⟨k4, h4, e4⟩ := h.step h3 (st := 8) (by omega) (by omega) (Nat.le_trans l3 (by omega)) 61
  have l4 := Nat.le_trans (bs_le (p := prN t d u kv0 K) (st := 8)) (Nat.add_le_add_right l3 _)
  obtain ⟨k5, h5, e5⟩ := h.step h4 (st := 4) (by omega) (by omega) (Nat.le_trans l4 (by omega)) 60
  have l5 := Nat.le_trans (bs_le (p := prN t d u kv0 K) (st := 4)) (Nat.add_le_add_right l4 _)
  obtain ⟨k6, h6, e6⟩ := h.step h5 (st := 2) (by omega) (by omega) (Nat.le_trans l5 (by omega)) 59
  have l6 := Nat.le_trans (bs_le (p := prN t d u kv0 K) (st := 2)) (Nat.add_le_add_right l5 _)
  obtain ⟨k7, h7, e7⟩ := h.step h6 (st := 1) (by omega) (by omega) (Nat.le_trans l6 (by omega)) 58
  refine ⟨k7, h7, ?_⟩
  refine Eq.trans e1 (Eq.trans e2 (Eq.trans e3 (Eq.trans e4 (Eq.trans e5 (Eq.trans e6 (Eq.trans e7 ?_))))))
  unfold lX2_wiseGuess_5
  rw [if_pos (show nI (1 / 2) ≤ (0 : Int32) from Int32.le_refl _)]
  rfl
theorem CW.guess {f0 f market : Nat → Int32} {kv0 kv' : Nat → Nat → Int32} {t d u : Nat} (h : CW K market f0 f kv0 t d u) (hk : KW kv0 kv') : (sX2_wiseGuess (nI u) f kv').1 = nI (sc_all (prN t d u kv0 K) 100).2 ∧ KW kv0 (sX2_wiseGuess (nI u) f kv').2 := by
  have hp := prN_anti t d u kv0 K
  have h99 : ∀ x, prN t d u kv0 K x ≤ 99 := fun x => Nat.le_trans (Nat.sub_le _ _) h.ht
  have hb := bs_ok hp
  rw [← bs_sc hp h99]
  obtain ⟨k1, h1, e1⟩ := h.loop hk
  have hb9 : bs_all (prN t d u kv0 K) ≤ 99 := by
    rcases Nat.lt_or_ge 99 (bs_all (prN t d u kv0 K)) with q | q
    · have := (hb.1 99 q).1; omega
    · exact q
  unfold sX2_wiseGuess
  simp only [ltd, e1]
  have hd : ∀ x, bs_all (prN t d u kv0 K) ≤ x → x < 99 → prN t d u kv0 K x ≤ x := by
    intro x hx h9
    have := hb.2 x hx
    unfold bs_good at this
    omega
  have hup : ∀ x, x < bs_all (prN t d u kv0 K) → x < prN t d u kv0 K x := fun x hx => (hb.1 x hx).2
  generalize bs_all (prN t d u kv0 K) = b at hb9 hd hup
  rw [Int32.sub_add_cancel]
  unfold bs_res
  rcases Nat.eq_zero_or_pos b with z | z
  · subst z
    rw [if_neg (show ¬ (0 : Int32) ≤ nI 0 - 1 by decide), if_pos rfl]
    exact ⟨rfl, h1⟩
  · have eb : nI b - 1 = nI (b - 1) := by rw [show (1 : Int32) = nI 1 from rfl, pu_sub (by omega)]
    rw [eb, if_pos (show (0 : Int32) ≤ nI (b - 1) from (pu_le (a := 0) (by omega) (by omega)).mpr (by omega)), if_neg (show ¬ b = 0 by omega)]
    obtain ⟨a1, a2⟩ := h.bring h1 (x := b - 1) (by omega)
    obtain ⟨b1, b2⟩ := h.bring a2 (x := b) (by omega)
    rw [a1, b1]
    have hpb : prN t d u kv0 K b ≤ b := by
      rcases Nat.lt_or_ge b 99 with q | q
      · exact hd b (Nat.le_refl _) q
      · have := h99 b; omega
    have hpa := hup (b - 1) (by omega)
    have h9a := h99 (b - 1)
    rw [pu_sub hpb, pu_sub (show b - 1 ≤ prN t d u kv0 K (b - 1) by omega)]
    have c0 : (nI (b - prN t d u kv0 K b) = (0 : Int32)) ↔ b - prN t d u kv0 K b = 0 := pu_inj (b := 0) (by omega) (by omega)
    have c1 : (nI (prN t d u kv0 K (b - 1) - (b - 1)) ≤ nI (b - prN t d u kv0 K b)) ↔ prN t d u kv0 K (b - 1) - (b - 1) ≤ b - prN t d u kv0 K b := pu_le (by omega) (by omega)
    simp only [c0, c1]
    split
    · exact ⟨rfl, b2⟩
    · split
      · exact ⟨rfl, b2⟩
      · exact ⟨rfl, b2⟩
theorem LD.wiseEq (h : LD K Y print low high lot market of state f kv mv) {f' : Nat → Int32} {kv' : Nat → Nat → Int32} (e2 : f' 2 = f 2) (e3 : f' 3 = f 3) (e4 : f' 4 = f 4) (hk : KW kv kv') : (sX2_wiseGuess (Sg (tU f kv) K) f' kv').1 = sX11_wiseGuess (nI K) print market of state ∧ KW kv (sX2_wiseGuess (Sg (tU f kv) K) f' kv').2 ∧ bd (sX11_wiseGuess (nI K) print market of state) 99 := by
  obtain ⟨u, hu, eu⟩ := h.unwise
  obtain ⟨t, ht, et⟩ := h.bt
  obtain ⟨d, hd1, hd2, ed⟩ := h.bq
  have hc : CW K market f f' kv t d u := CW.mk' h.hK (e2.trans h.f2) (fun g => price_eq h e3 e4 g) (fun x hx => by
    have := h.priceAt ht hd2 hu et ed eu hx
    rw [eu] at this
    exact this) ht
  rw [h.mwise ht hd2 hu et ed eu, eu]
  have hg := hc.guess hk
  refine ⟨hg.1, hg.2, _, ?_, rfl⟩
  have := (sc_best (p := prN t d u kv K) (fun x => Nat.le_trans (Nat.sub_le _ _) ht)).1
  omega
end
theorem i_add {x y : Int32} (h1 : -2147483648 ≤ x.toInt + y.toInt) (h2 : x.toInt + y.toInt < 2147483648) : (x + y).toInt = x.toInt + y.toInt := by
  rw [Int32.toInt_add]; exact Int.bmod_eq_of_le (by omega) (by omega)
theorem i_sub {x y : Int32} (h1 : -2147483648 ≤ x.toInt - y.toInt) (h2 : x.toInt - y.toInt < 2147483648) : (x - y).toInt = x.toInt - y.toInt := by
  rw [Int32.toInt_sub]; exact Int.bmod_eq_of_le (by omega) (by omega)
theorem i_mul {x y : Int32} (h1 : -2147483648 ≤ x.toInt * y.toInt) (h2 : x.toInt * y.toInt < 2147483648) : (x * y).toInt = x.toInt * y.toInt := by
  rw [Int32.toInt_mul]; exact Int.bmod_eq_of_le (by omega) (by omega)
def payC (g : Int32) (kv : Nat → Nat → Int32) (j : Nat) : Nat → Int32 := if kv j 7 = 0 then sX1_earn g (kv j) else kv j
theorem payFarmers_eq {g : Int32} {f : Nat → Int32} {kv : Nat → Nat → Int32} {K : Nat} (hK : K ≤ 5) (hf : f 2 = nI K) : sX2_payFarmers g f kv = rowsTo K (payC g kv) kv := by
  have key := loop_run (fun n i (s : Nat → Nat → Int32) => lX2_payFarmers_2 g f n (nI i) s) (fun i => rowsTo i (payC g kv) kv) K ?_ (6 - K) K (Nat.le_refl _)
  · have e : lX2_payFarmers_2 g f 6 0 kv = (nI K, rowsTo K (payC g kv) kv) := by
      have e0 : rowsTo 0 (payC g kv) kv = kv := by funext j; unfold rowsTo; rw [if_neg (by omega)]
      have key' : lX2_payFarmers_2 g f (6 - K + K) (nI 0) (rowsTo 0 (payC g kv) kv) = lX2_payFarmers_2 g f (6 - K) (nI K) (rowsTo K (payC g kv) kv) := key
      rw [show 6 - K + K = 6 by omega, e0] at key'
      refine key'.trans ?_
      rw [show 6 - K = (5 - K) + 1 by omega]
      unfold lX2_payFarmers_2
      rw [if_pos (by rw [hf]; exact Int32.le_refl _)]
    unfold sX2_payFarmers
    rw [ltd, e]
  · intro n i hi
    show lX2_payFarmers_2 g f (n + 1) (nI i) (rowsTo i (payC g kv) kv) = lX2_payFarmers_2 g f n (nI (i + 1)) (rowsTo (i + 1) (payC g kv) kv)
    rw [lX2_payFarmers_2]
    obtain ⟨g1, g2⟩ := c_go hK hi
    rw [hf, if_neg g1, if_neg g2, pu_nat (show i < 2147483648 by omega), rowsTo_at, pu_succ]
    simp only [ltd]
    by_cases h1 : kv i 7 = 0
    · rw [if_pos h1, rowsTo_up (by unfold payC; rw [if_pos h1])]
    · rw [if_neg h1, rowsTo_id (by unfold payC; rw [if_neg h1])]
def colTo (i : Nat) (w r : Nat → Int32) : Nat → Int32 := fun j => if j < i then w j else r j
theorem colTo_up {i : Nat} {w r : Nat → Int32} {v : Int32} (h : w i = v) : upd (colTo i w r) i v = colTo (i + 1) w r := by
  funext j
  unfold upd colTo
  by_cases h1 : j = i
  · subst h1; rw [if_pos rfl, if_pos (by omega), h]
  · rw [if_neg h1]
    by_cases h2 : j < i
    · rw [if_pos h2, if_pos (by omega)]
    · rw [if_neg h2, if_neg (by omega)]
theorem colTo_0 {w r : Nat → Int32} : colTo 0 w r = r := by funext j; unfold colTo; rw [if_neg (by omega)]
def bM (print : Int32) (of state : Nat → Int32) (x : Int32) (j : Nat) : Int32 := if sX11_isOut (nI j) state = 0 then pM print of state x j else 0
theorem year7_eq {print x : Int32} {of state brings : Nat → Int32} {K : Nat} (hK : K ≤ 5) : lX11_year_7 (nI K) print of state x 6 0 brings = (nI K, colTo K (bM print of state x) brings) := by
  have key := loop_run (fun n i (s : Nat → Int32) => lX11_year_7 (nI K) print of state x n (nI i) s) (fun i => colTo i (bM print of state x) brings) K ?_ (6 - K) K (Nat.le_refl _)
  · have key' : lX11_year_7 (nI K) print of state x (6 - K + K) (nI 0) (colTo 0 (bM print of state x) brings) = lX11_year_7 (nI K) print of state x (6 - K) (nI K) (colTo K (bM print of state x) brings) := key
    rw [show 6 - K + K = 6 by omega, colTo_0] at key'
    refine key'.trans ?_
    rw [show 6 - K = (5 - K) + 1 by omega]
    unfold lX11_year_7
    rw [if_pos (Int32.le_refl _)]
  · intro n i hi
    show lX11_year_7 (nI K) print of state x (n + 1) (nI i) (colTo i (bM print of state x) brings) = lX11_year_7 (nI K) print of state x n (nI (i + 1)) (colTo (i + 1) (bM print of state x) brings)
    rw [lX11_year_7]
    obtain ⟨g1, g2⟩ := c_go hK hi
    rw [if_neg g1, guessOf_eq (by omega), pu_nat (show i < 2147483648 by omega), pu_succ]
    simp only [ltd]
    rw [pigsBy_eq (j := i) (by omega)]
    show lX11_year_7 (nI K) print of state x n (nI (i + 1)) (upd (colTo i (bM print of state x) brings) i (bM print of state x i)) = _
    rw [colTo_up rfl]
def cM (g : Int32) (brings of st : Nat → Int32) (j : Nat) : Int32 := st (7 + j) + (g * brings j - of (6 * j + 5))
def oM (g : Int32) (brings of st : Nat → Int32) (j : Nat) : Int32 := if 0 ≤ cM g brings of st j then 0 else 1
def stTo (g : Int32) (brings of st : Nat → Int32) (i : Nat) : Nat → Int32 := fun n => if 7 ≤ n ∧ n < 7 + i ∧ ¬ st (n + 5) = 1 then cM g brings of st (n - 7) else if 12 ≤ n ∧ n < 12 + i ∧ ¬ st n = 1 then oM g brings of st (n - 12) else st n
theorem stTo_at {g : Int32} {brings of st : Nat → Int32} {i : Nat} (hi : i < 5) : stTo g brings of st i (7 + i) = st (7 + i) ∧ stTo g brings of st i (12 + i) = st (12 + i) := by
  unfold stTo
  refine ⟨?_, ?_⟩
  · rw [if_neg (fun q => by omega), if_neg (fun q => by omega)]
  · rw [if_neg (fun q => by omega), if_neg (fun q => by omega)]
theorem stTo_up {g : Int32} {brings of st : Nat → Int32} {i : Nat} (hi : i < 5) (ho : ¬ st (12 + i) = 1) : upd (upd (stTo g brings of st i) (7 + i) (cM g brings of st i)) (12 + i) (oM g brings of st i) = stTo g brings of st (i + 1) := by
  funext n
  unfold upd
  by_cases a : n = 12 + i
  · subst a
    rw [if_pos rfl]
    unfold stTo
    rw [if_neg (fun q => by omega), if_pos ⟨by omega, by omega, ho⟩, show 12 + i - 12 = i by omega]
  · rw [if_neg a]
    by_cases b : n = 7 + i
    · subst b
      rw [if_pos rfl]
      unfold stTo
      rw [if_pos ⟨by omega, by omega, by rw [show 7 + i + 5 = 12 + i by omega]; exact ho⟩, show 7 + i - 7 = i by omega]
    · rw [if_neg b]
      unfold stTo
      have e1 : (7 ≤ n ∧ n < 7 + i ∧ ¬ st (n + 5) = 1) = (7 ≤ n ∧ n < 7 + (i + 1) ∧ ¬ st (n + 5) = 1) := propext ⟨fun q => ⟨q.1, by omega, q.2.2⟩, fun q => ⟨q.1, by omega, q.2.2⟩⟩
      have e2 : (12 ≤ n ∧ n < 12 + i ∧ ¬ st n = 1) = (12 ≤ n ∧ n < 12 + (i + 1) ∧ ¬ st n = 1) := propext ⟨fun q => ⟨q.1, by omega, q.2.2⟩, fun q => ⟨q.1, by omega, q.2.2⟩⟩
      simp only [e1, e2]
theorem stTo_id {g : Int32} {brings of st : Nat → Int32} {i : Nat} (hi : i < 5) (ho : st (12 + i) = 1) : stTo g brings of st (i + 1) = stTo g brings of st i := by
  funext n
  unfold stTo
  have e1 : (7 ≤ n ∧ n < 7 + (i + 1) ∧ ¬ st (n + 5) = 1) = (7 ≤ n ∧ n < 7 + i ∧ ¬ st (n + 5) = 1) := propext ⟨fun q => ⟨q.1, by
    rcases Nat.lt_or_ge n (7 + i) with z | z
    · exact z
    · have : n + 5 = 12 + i := by omega
      rw [this] at q; exact absurd ho q.2.2, q.2.2⟩, fun q => ⟨q.1, by omega, q.2.2⟩⟩
  have e2 : (12 ≤ n ∧ n < 12 + (i + 1) ∧ ¬ st n = 1) = (12 ≤ n ∧ n < 12 + i ∧ ¬ st n = 1) := propext ⟨fun q => ⟨q.1, by
    rcases Nat.lt_or_ge n (12 + i) with z | z
    · exact z
    · have : n = 12 + i := by omega
      rw [this] at q; exact absurd ho q.2.2, q.2.2⟩, fun q => ⟨q.1, by omega, q.2.2⟩⟩
  simp only [e1, e2]
theorem year184_eq {pr : Int32} {market of st : Nat → Int32} {u : Int32 × (Nat → Int32)} {K : Nat} (hK : K ≤ 5) : lX11_year_184 (nI K) market of u pr 6 0 st = (nI K, stTo (pr - market 2) u.2 of st K) := by
  have key := loop_run (fun n i (s : Nat → Int32) => lX11_year_184 (nI K) market of u pr n (nI i) s) (fun i => stTo (pr - market 2) u.2 of st i) K ?_ (6 - K) K (Nat.le_refl _)
  · have e0 : stTo (pr - market 2) u.2 of st 0 = st := by funext n; unfold stTo; rw [if_neg (fun q => by omega), if_neg (fun q => by omega)]
    have key' : lX11_year_184 (nI K) market of u pr (6 - K + K) (nI 0) (stTo (pr - market 2) u.2 of st 0) = lX11_year_184 (nI K) market of u pr (6 - K) (nI K) (stTo (pr - market 2) u.2 of st K) := key
    rw [show 6 - K + K = 6 by omega, e0] at key'
    refine key'.trans ?_
    rw [show 6 - K = (5 - K) + 1 by omega]
    unfold lX11_year_184
    rw [if_pos (Int32.le_refl _)]
  · intro n i hi
    show lX11_year_184 (nI K) market of u pr (n + 1) (nI i) (stTo (pr - market 2) u.2 of st i) = lX11_year_184 (nI K) market of u pr n (nI (i + 1)) (stTo (pr - market 2) u.2 of st (i + 1))
    rw [lX11_year_184]
    obtain ⟨g1, g2⟩ := c_go hK hi
    obtain ⟨s1, s2⟩ := stTo_at (g := pr - market 2) (brings := u.2) (of := of) (st := st) (show i < 5 by omega)
    have t5 : sX11_told (nI i) 5 of = of (6 * i + 5) := told_eq (c := 5) rfl (by omega) (by omega) of
    have n7 : ((7 : Int32) + nI i).toNatClampNeg = 7 + i := by rw [show (7 : Int32) = nI 7 from rfl, pu_add, pu_nat (by omega)]
    have n12 : ((12 : Int32) + nI i).toNatClampNeg = 12 + i := by rw [show (12 : Int32) = nI 12 from rfl, pu_add, pu_nat (by omega)]
    rw [if_neg g1, isOut_eq (by omega), t5, n7, n12, pu_nat (show i < 2147483648 by omega), pu_succ, s1, s2]
    simp only [ltd, pu_us]
    by_cases ho : st (12 + i) = 1
    · rw [if_pos ho, if_neg (show ¬ (1 : Int32) = 0 by decide), stTo_id (by omega) ho]
    · rw [if_neg ho, if_pos rfl, ← stTo_up (by omega) ho]
      rfl
def dealM (a b low high lot st : Int32) : Int32 := if lot ≤ 0 then (if lot ≤ 0 then (0) else (if a ≤ high then (0) else (if st ≤ lot then (-st) else (-lot)))) else (if low ≤ a then (if lot ≤ 0 then (0) else (if a ≤ high then (0) else (if st ≤ lot then (-st) else (-lot)))) else (if b ≤ lot then b else lot))
theorem deal_eq {a b low high lot st : Int32} {v : Nat → Int32} (e0 : v 0 = low) (e1 : v 1 = high) (e2 : v 2 = lot) (e3 : v 3 = st) : sX3_dealAt a b v = dealM a b low high lot st := by
  unfold sX3_dealAt dealM
  rw [e0, e1, e2, e3]
  simp only [ltd]
  have m1 : ∀ x y : Int32, (if x < y then x else y) = if x ≤ y then x else y := by
    intro x y
    by_cases h : x < y
    · rw [if_pos h, if_pos (Int32.le_of_lt h)]
    · rw [if_neg h]
      by_cases g : x ≤ y
      · rw [if_pos g]
        exact Int32.toInt_inj.mp (by rw [Int32.lt_iff_toInt_lt] at h; rw [Int32.le_iff_toInt_le] at g; omega)
      · rw [if_neg g]
  rw [m1 st lot, m1 b lot]
  have m2 : -(if st ≤ lot then st else lot) = if st ≤ lot then -st else -lot := by split <;> rfl
  rw [m2]
theorem deal_bd {a low high lot : Int32} {p s n : Nat} (hl : bd lot 99) (hp : p ≤ 41400) (hs : s ≤ n) (hn : n ≤ 6000000) : (∃ q, q ≤ 41499 ∧ nI p - dealM a (nI p) low high lot (nI s) = nI q) ∧ bd (nI s + dealM a (nI p) low high lot (nI s)) (n + 99) := by
  obtain ⟨k, hk, rfl⟩ := hl
  have z : (∃ q, q ≤ 41499 ∧ nI p - (0 : Int32) = nI q) ∧ bd (nI s + 0) (n + 99) := ⟨⟨p, by omega, Int32.sub_zero _⟩, s, by omega, Int32.add_zero _⟩
  have sell : (∃ q, q ≤ 41499 ∧ nI p - (if nI s ≤ nI k then -nI s else -nI k) = nI q) ∧ bd (nI s + (if nI s ≤ nI k then -nI s else -nI k)) (n + 99) := by
    by_cases h : s ≤ k
    · rw [if_pos ((pu_le (by omega) (by omega)).mpr h)]
      refine ⟨⟨p + s, by omega, by rw [Int32.sub_neg, pu_add]⟩, 0, by omega, ?_⟩
      rw [← Int32.sub_eq_add_neg, Int32.sub_self]; rfl
    · rw [if_neg (fun q => h ((pu_le (by omega) (by omega)).mp q))]
      refine ⟨⟨p + k, by omega, by rw [Int32.sub_neg, pu_add]⟩, s - k, by omega, ?_⟩
      rw [← Int32.sub_eq_add_neg, pu_sub (by omega)]
  have buy : (∃ q, q ≤ 41499 ∧ nI p - (if nI p ≤ nI k then nI p else nI k) = nI q) ∧ bd (nI s + (if nI p ≤ nI k then nI p else nI k)) (n + 99) := by
    by_cases h : p ≤ k
    · rw [if_pos ((pu_le (by omega) (by omega)).mpr h)]
      exact ⟨⟨0, by omega, by rw [Int32.sub_self]; rfl⟩, s + p, by omega, by rw [pu_add]⟩
    · rw [if_neg (fun q => h ((pu_le (by omega) (by omega)).mp q))]
      exact ⟨⟨p - k, by omega, by rw [pu_sub (by omega)]⟩, s + k, by omega, by rw [pu_add]⟩
  unfold dealM
  by_cases h1 : nI k ≤ 0
  · simp only [if_pos h1]; exact z
  · simp only [if_neg h1]
    by_cases h2 : low ≤ a
    · simp only [if_pos h2]
      by_cases h3 : a ≤ high
      · simp only [if_pos h3]; exact z
      · simp only [if_neg h3]; exact sell
    · simp only [if_neg h2]; exact buy
section
variable {K Y : Nat} {print low high lot : Int32} {market of state f : Nat → Int32} {kv : Nat → Nat → Int32} {mv : Nat → Int32}
theorem LD.k8 (h : LD K Y print low high lot market of state f kv mv) {kv' : Nat → Nat → Int32} (hk : ∀ j c, c ≠ 8 → kv' j c = kv j c) : LD K Y print low high lot market of state f kv' mv :=
  LD.mk' h.hK h.f2 h.f3 h.f4 h.f5 h.f6 h.f7 h.f8 h.f9 h.f10 h.f11 h.m0 h.m1 h.m2 h.m3 h.m4
    (fun j hj c hc => (hk j c (by omega)).trans (h.kd j hj c hc)) (fun j hj => (hk j 6 (by omega)).trans (h.kc j hj)) (fun j hj => (hk j 7 (by omega)).trans (h.ko j hj))
    h.bt h.bq h.bf h.b0 h.b1 h.b2 h.bp h.bl h.bs h.kb h.kw h.kx h.kn (fun j hj => by rw [hk j 7 (by omega)]; exact h.kz j hj)
theorem tU_k8 {kv' : Nat → Nat → Int32} (hk : ∀ j c, c ≠ 8 → kv' j c = kv j c) : tU f kv' = tU f kv := by
  funext j
  unfold tU sX1_pigsBy gU
  rw [hk j 7 (by omega), hk j 0 (by omega), hk j 1 (by omega), hk j 2 (by omega), hk j 3 (by omega), hk j 4 (by omega)]
theorem tU_f {f' : Nat → Int32} (h6 : f' 6 = f 6) (h7 : f' 7 = f 7) (h8 : f' 8 = f 8) (h9 : f' 9 = f 9) : tU f' kv = tU f kv := by
  funext j
  unfold tU gU
  rw [h6, h7, h8, h9]
theorem rowsU_k8 (K : Nat) : ∀ j c, c ≠ 8 → rowsTo K (wU f kv) kv j c = kv j c := by
  intro j c hc
  unfold rowsTo wU
  split
  · split
    · split
      · rfl
      · exact pu_un hc
    · rfl
  · rfl
theorem hasWise_no {K : Nat} (hK : K ≤ 5) (hf : f 2 = nI K) (h : sX2_hasWise f kv = 0) : ∀ j, j < K → ¬ (kv j 7 = 0 ∧ kv j 0 = 6) := by
  have key : ∀ m n i, i + m = K → m < n → lX2_hasWise_2 f kv n (nI i) = 0 → ∀ j, i ≤ j → j < K → ¬ (kv j 7 = 0 ∧ kv j 0 = 6) := by
    intro m
    induction m with
    | zero => intro n i h1 h2 h3 j h4 h5; omega
    | succ m ih =>
      intro n i h1 h2 h3 j h4 h5
      obtain ⟨n, rfl⟩ : ∃ n', n = n' + 1 := ⟨n - 1, by omega⟩
      rw [lX2_hasWise_2] at h3
      obtain ⟨g1, g2⟩ := c_go hK (show i < K by omega)
      rw [hf, if_neg g1, if_neg g2, pu_nat (show i < 2147483648 by omega), pu_succ, ltd] at h3
      by_cases a : kv i 7 = 0
      · rw [if_pos a] at h3
        by_cases b : kv i 0 = 6
        · rw [if_pos b] at h3
          exact absurd h3 (by decide)
        · rw [if_neg b] at h3
          rcases Nat.lt_or_ge i j with z | z
          · exact ih n (i + 1) (by omega) (by omega) h3 j (by omega) h5
          · have : j = i := by omega
            subst this; exact fun q => b q.2
      · rw [if_neg a] at h3
        rcases Nat.lt_or_ge i j with z | z
        · exact ih n (i + 1) (by omega) (by omega) h3 j (by omega) h5
        · have : j = i := by omega
          subst this; exact fun q => a q.1
  intro j hj
  exact key K 6 0 (by omega) (by omega) h j (by omega) hj
theorem LD.pigs (h : LD K Y print low high lot market of state f kv mv) :
    ∃ (fy : Nat → Int32) (ky : Nat → Nat → Int32), (if sX2_hasWise (upd f 10 (sX2_bringUnwise f kv).1) (sX2_bringUnwise f kv).2 = 0 then (upd f 10 (sX2_bringUnwise f kv).1, (sX2_bringUnwise f kv).2) else (upd f 10 ((sX2_bringUnwise f kv).1 + (sX2_bringWise (sX2_wiseGuess (sX2_bringUnwise f kv).1 (upd f 10 (sX2_bringUnwise f kv).1) (sX2_bringUnwise f kv).2).1 (upd f 10 (sX2_bringUnwise f kv).1) (sX2_wiseGuess (sX2_bringUnwise f kv).1 (upd f 10 (sX2_bringUnwise f kv).1) (sX2_bringUnwise f kv).2).2).1), (sX2_bringWise (sX2_wiseGuess (sX2_bringUnwise f kv).1 (upd f 10 (sX2_bringUnwise f kv).1) (sX2_bringUnwise f kv).2).1 (upd f 10 (sX2_bringUnwise f kv).1) (sX2_wiseGuess (sX2_bringUnwise f kv).1 (upd f 10 (sX2_bringUnwise f kv).1) (sX2_bringUnwise f kv).2).2).2)) = (fy, ky)
      ∧ fy 10 = Sg (tM print of state (sX11_wiseGuess (nI K) print market of state)) K ∧ (∀ c, c ≠ 10 → fy c = f c) ∧ (∀ j c, c ≠ 8 → ky j c = kv j c) ∧ (∀ j, j < K → kv j 7 = 0 → ky j 8 = pM print of state (sX11_wiseGuess (nI K) print market of state) j) := by
  have hK := h.hK
  rw [bringUnwise_eq hK h.f2]
  have h1 := h.k8 (rowsU_k8 (f := f) (kv := kv) K)
  have eU : Sg (tU f kv) K = Sg (tU f (rowsTo K (wU f kv) kv)) K := by rw [tU_k8 (rowsU_k8 K)]
  obtain ⟨w1, w2, w3⟩ := h1.wiseEq (f' := upd f 10 (Sg (tU f kv) K)) (kv' := rowsTo K (wU f kv) kv) rfl rfl rfl KW.rfl'
  rw [← eU] at w1 w2
  have hsum := h1.sum (sX11_wiseGuess (nI K) print market of state)
  rw [← eU] at hsum
  have hun : ∀ j, j < K → kv j 7 = 0 → ¬ kv j 0 = 6 → rowsTo K (wU f kv) kv j 8 = pM print of state (sX11_wiseGuess (nI K) print market of state) j := by
    intro j hj ho hw
    unfold rowsTo wU
    rw [if_pos hj, if_pos ho, if_neg hw, pu_us]
    have d := h.kd j hj
    have e0 : kv j 0 = of (6 * j) := d 0 (by omega)
    unfold sX1_pigsBy gU pM gM
    rcases h.way hj with w | ⟨w, w'⟩
    · exact absurd (e0.trans w) hw
    · rw [e0, d 1 (by omega), d 3 (by omega), d 4 (by omega), h.f6, h.f7, h.f8, h.f9, guess_eq w' h.bp, if_neg w]
  dsimp only
  by_cases hw : sX2_hasWise (upd f 10 (Sg (tU f kv) K)) (rowsTo K (wU f kv) kv) = 0
  · rw [if_pos hw]
    have hno := hasWise_no hK (show upd f 10 (Sg (tU f kv) K) 2 = nI K from h.f2) hw
    refine ⟨_, _, rfl, ?_, fun c hc => pu_un hc, rowsU_k8 K, ?_⟩
    · rw [pu_us, ← hsum]
      have : Sg (tW (sX11_wiseGuess (nI K) print market of state) (rowsTo K (wU f kv) kv)) K = Sg (fun _ => 0) K := by
        refine Sg_congr K (fun j hj => ?_)
        have := hno j hj
        unfold tW
        by_cases a : rowsTo K (wU f kv) kv j 7 = 0
        · rw [if_pos a, if_neg (fun b => this ⟨a, b⟩)]
        · rw [if_neg a]
      rw [this]
      have z : ∀ n, Sg (fun _ => 0) n = 0 := by
        intro n
        induction n with
        | zero => rfl
        | succ n ih => show Sg (fun _ => 0) n + 0 = 0; rw [ih]; rfl
      rw [z, Int32.add_zero]
    · intro j hj ho
      refine hun j hj ho (fun e => hno j hj ⟨?_, ?_⟩)
      · rw [rowsU_k8 K j 7 (by omega)]; exact ho
      · rw [rowsU_k8 K j 0 (by omega)]; exact e
  · rw [if_neg hw]
    rw [w1]
    generalize hk2 : (sX2_wiseGuess (Sg (tU f kv) K) (upd f 10 (Sg (tU f kv) K)) (rowsTo K (wU f kv) kv)).2 = k2 at w2
    rw [bringWise_eq _ hK (show upd f 10 (Sg (tU f kv) K) 2 = nI K from h.f2)]
    refine ⟨_, _, rfl, ?_, fun c hc => pu_un hc, ?_, ?_⟩
    · dsimp only
      rw [pu_us, w2.tW, hsum]
    · intro j c hc
      dsimp only
      rw [(KW.rows _ K) j c (Or.inl hc), w2 j c (Or.inl hc), rowsU_k8 K j c hc]
    · intro j hj ho
      have o2 : k2 j 7 = 0 := by rw [w2 j 7 (Or.inl (by omega)), rowsU_k8 K j 7 (by omega)]; exact ho
      by_cases hw6 : kv j 0 = 6
      · have y2 : k2 j 0 = 6 := by rw [w2 j 0 (Or.inl (by omega)), rowsU_k8 K j 0 (by omega)]; exact hw6
        show rowsTo K (wW _ k2) k2 j 8 = _
        unfold rowsTo wW
        rw [if_pos hj, if_pos o2, if_pos y2, pu_us]
        have d := h.kd j hj
        have e0 : kv j 0 = of (6 * j) := d 0 (by omega)
        unfold sX1_pigsBy pM gM
        rw [w2 j 3 (Or.inl (by omega)), w2 j 4 (Or.inl (by omega)), rowsU_k8 K j 3 (by omega), rowsU_k8 K j 4 (by omega), d 3 (by omega), d 4 (by omega), if_pos (e0.symm.trans hw6)]
      · have y2 : ¬ k2 j 0 = 6 := by rw [w2 j 0 (Or.inl (by omega)), rowsU_k8 K j 0 (by omega)]; exact hw6
        dsimp only
        rw [(KW.rows _ K) j 8 (Or.inr (fun q => y2 q.2)), w2 j 8 (Or.inr (fun q => hw6 ((rowsU_k8 (f := f) (kv := kv) K j 0 (by omega)).symm.trans q.2)))]
        exact hun j hj ho hw6
end
section
variable {K Y : Nat} {print low high lot : Int32} {market of state f : Nat → Int32} {kv : Nat → Nat → Int32} {mv : Nat → Int32}
theorem bM_at (h : LD K Y print low high lot market of state f kv mv) {x : Int32} {j : Nat} (hj : j < K) (ho : kv j 7 = 0) {r : Nat → Int32} : colTo K (bM print of state x) r j = pM print of state x j := by
  unfold colTo bM
  rw [if_pos hj]
  rcases h.out hj with ⟨a, b⟩ | ⟨a, b⟩
  · rw [if_pos b]
  · exact absurd ho a
theorem year_eq {brings : Nat → Int32} (hK : K ≤ 5) :
    ∃ b : Nat → Int32, b = colTo K (bM print of state (sX11_wiseGuess (nI K) print market of state)) brings ∧
    sX11_year (nI K) print low high lot market of state brings =
      (upd (upd (upd (upd (upd
        (stTo (sX11_priceOf (Sg (tM print of state (sX11_wiseGuess (nI K) print market of state)) K - dealM (sX11_priceOf (Sg (tM print of state (sX11_wiseGuess (nI K) print market of state)) K) market) (Sg (tM print of state (sX11_wiseGuess (nI K) print market of state)) K) low high lot (state 4)) market - market 2) b of
          (upd (upd state 4 (state 4 + dealM (sX11_priceOf (Sg (tM print of state (sX11_wiseGuess (nI K) print market of state)) K) market) (Sg (tM print of state (sX11_wiseGuess (nI K) print market of state)) K) low high lot (state 4))) 5
            (state 5 + dealM (sX11_priceOf (Sg (tM print of state (sX11_wiseGuess (nI K) print market of state)) K) market) (Sg (tM print of state (sX11_wiseGuess (nI K) print market of state)) K) low high lot (state 4) * sX11_priceOf (Sg (tM print of state (sX11_wiseGuess (nI K) print market of state)) K - dealM (sX11_priceOf (Sg (tM print of state (sX11_wiseGuess (nI K) print market of state)) K) market) (Sg (tM print of state (sX11_wiseGuess (nI K) print market of state)) K) low high lot (state 4)) market)) K)
        2 (state 1)) 1 (state 0)) 0 (sX11_priceOf (Sg (tM print of state (sX11_wiseGuess (nI K) print market of state)) K - dealM (sX11_priceOf (Sg (tM print of state (sX11_wiseGuess (nI K) print market of state)) K) market) (Sg (tM print of state (sX11_wiseGuess (nI K) print market of state)) K) low high lot (state 4)) market)) 3 (Sg (tM print of state (sX11_wiseGuess (nI K) print market of state)) K)) 6 (state 6 + 1), b) := by
  refine ⟨_, rfl, ?_⟩
  unfold sX11_year
  simp only [ltd]
  rw [year7_eq hK, pigsWith_eq hK]
  generalize sX11_wiseGuess (nI K) print market of state = x
  generalize Sg (tM print of state x) K = P
  have hd : (if lot ≤ 0 then (if lot ≤ 0 then (0 : Int32) else (if sX11_priceOf P market ≤ high then (0) else (if state 4 ≤ lot then -state 4 else -lot))) else (if low ≤ sX11_priceOf P market then (if lot ≤ 0 then (0) else (if sX11_priceOf P market ≤ high then (0) else (if state 4 ≤ lot then -state 4 else -lot))) else (if P ≤ lot then P else lot))) = dealM (sX11_priceOf P market) P low high lot (state 4) := rfl
  rw [hd]
  generalize dealM (sX11_priceOf P market) P low high lot (state 4) = t
  generalize sX11_priceOf (P - t) market = q
  rw [year184_eq hK]
  have low7 : ∀ (g : Int32) (b st : Nat → Int32) n, n < 7 → stTo g b of st K n = st n := by
    intro g b st n hn
    unfold stTo
    rw [if_neg (fun q => by omega), if_neg (fun q => by omega)]
  simp only
  refine Prod.ext ?_ rfl
  simp only
  have u1 : ∀ (a : Nat → Int32) (v : Int32), upd a 4 v 5 = a 5 := fun a v => pu_un (by omega)
  have u2 : ∀ (a : Nat → Int32) (v : Int32), upd a 2 v 0 = a 0 := fun a v => pu_un (by omega)
  have u3 : ∀ (a : Nat → Int32) (v : Int32), upd a 3 v 6 = a 6 := fun a v => pu_un (by omega)
  have u4 : ∀ (a : Nat → Int32) (v : Int32), upd a 0 v 6 = a 6 := fun a v => pu_un (by omega)
  have u5 : ∀ (a : Nat → Int32) (v : Int32), upd a 1 v 6 = a 6 := fun a v => pu_un (by omega)
  have u6 : ∀ (a : Nat → Int32) (v : Int32), upd a 2 v 6 = a 6 := fun a v => pu_un (by omega)
  have u7 : ∀ (a : Nat → Int32) (v : Int32) n, n < 4 → upd a 4 v n = a n := fun a v n hn => pu_un (by omega)
  have u8 : ∀ (a : Nat → Int32) (v : Int32) n, n < 4 → upd a 5 v n = a n := fun a v n hn => pu_un (by omega)
  have u9 : ∀ (a : Nat → Int32) (v : Int32), upd a 4 v 6 = a 6 := fun a v => pu_un (by omega)
  have u10 : ∀ (a : Nat → Int32) (v : Int32), upd a 5 v 6 = a 6 := fun a v => pu_un (by omega)
  rw [u1, u2, u3, u4, u5, u6, low7 _ _ _ 0 (by omega), low7 _ _ _ 1 (by omega), low7 _ _ _ 6 (by omega), u8 _ _ 0 (by omega), u8 _ _ 1 (by omega), u7 _ _ 0 (by omega), u7 _ _ 1 (by omega), u10, u9]
end
section
variable {K Y : Nat} {print low high lot : Int32} {market of state f : Nat → Int32} {kv : Nat → Nat → Int32} {mv : Nat → Int32}
theorem LD.year (h : LD K Y print low high lot market of state f kv mv) (hY : Y ≤ 60000) (brings : Nat → Int32) :
    (sX2_liveYear f kv mv).1 = (sX11_year (nI K) print low high lot market of state brings).1 0 ∧
    LD K (Y + 1) print low high lot market of (sX11_year (nI K) print low high lot market of state brings).1 (sX2_liveYear f kv mv).2.1 (sX2_liveYear f kv mv).2.2.1 (sX2_liveYear f kv mv).2.2.2 := by
  have hK := h.hK
  obtain ⟨fy, ky, e, p10, pf, pk, p8⟩ := h.pigs
  obtain ⟨b, eb, ey⟩ := year_eq (print := print) (low := low) (high := high) (lot := lot) (market := market) (of := of) (state := state) (brings := brings) hK
  have hxb : bd (sX11_wiseGuess (nI K) print market of state) 99 := (h.wiseEq (f' := f) (kv' := kv) rfl rfl rfl KW.rfl').2.2
  rw [ey]
  obtain ⟨P, hP, eP⟩ := h.all hxb
  generalize sX11_wiseGuess (nI K) print market of state = x at eb p10 p8 hxb eP
  rw [eP]
  rw [eP] at p10
  obtain ⟨s4, hs4, es4⟩ := h.bs
  obtain ⟨⟨q, hq, eq⟩, hst⟩ := deal_bd (a := sX11_priceOf (nI P) market) (low := low) (high := high) (s := s4) (n := 99 * Y) h.bl hP hs4 (by omega)
  have eL : sX2_liveYear f kv mv = (sX11_priceOf (nI q) market, upd (upd (upd (upd fy 8 (fy 7)) 7 (fy 6)) 6 (sX11_priceOf (nI q) market)) 11 (fy 11 + 1), rowsTo K (payC (sX11_priceOf (nI q) market - market 2) ky) ky, sX3_settle (dealM (sX11_priceOf (nI P) market) (nI P) low high lot (nI s4)) (sX11_priceOf (nI q) market) mv) := by
    unfold sX2_liveYear
    simp only [ltd]
    rw [e]
    dsimp only
    have hpe : ∀ g, sX2_priceOf g fy = sX11_priceOf g market := fun g => price_eq h (pf 3 (by omega)) (pf 4 (by omega)) g
    simp only [p10, hpe]
    rw [deal_eq h.m0 h.m1 h.m2 (h.m3.trans es4), eq, pf 5 (by omega), h.f5, payFarmers_eq hK ((pf 2 (by omega)).trans h.f2)]
  rw [eL, es4, eq]
  dsimp only
  obtain ⟨t, ht, et⟩ := h.bt
  obtain ⟨d, hd1, hd2, ed⟩ := h.bq
  have epr := mprice_eq (market := market) ht hd2 (show q < 2147483648 by omega) et ed
  have hpr : bd (sX11_priceOf (nI q) market) 99 := ⟨_, Nat.le_trans (Nat.sub_le _ _) ht, epr⟩
  generalize dealM (sX11_priceOf (nI P) market) (nI P) low high lot (nI s4) = dl at hst
  generalize hst0 : upd (upd state 4 (nI s4 + dl)) 5 (state 5 + dl * sX11_priceOf (nI q) market) = st0
  generalize sX11_priceOf (nI q) market = pr at hpr hst0
  have st0n : ∀ n, n ≠ 4 → n ≠ 5 → st0 n = state n := by
    intro n h4 h5
    rw [← hst0, pu_un h5, pu_un h4]
  have st04 : st0 4 = nI s4 + dl := by rw [← hst0, pu_un (by omega), pu_us]
  have st05 : st0 5 = state 5 + dl * pr := by rw [← hst0, pu_us]
  generalize hs1 : stTo (pr - market 2) b of st0 K = s1
  have low7 : ∀ n, n < 7 → s1 n = st0 n := by
    intro n hn
    rw [← hs1]
    unfold stTo
    rw [if_neg (fun q => by omega), if_neg (fun q => by omega)]
  generalize hs2 : upd (upd (upd (upd (upd s1 2 (state 1)) 1 (state 0)) 0 pr) 3 (nI P)) 6 (state 6 + 1) = s2
  have hi7 : ∀ n, 7 ≤ n → s2 n = s1 n := by
    intro n hn
    rw [← hs2, pu_un (by omega), pu_un (by omega), pu_un (by omega), pu_un (by omega), pu_un (by omega)]
  have v0 : s2 0 = pr := by rw [← hs2, pu_un (by omega), pu_un (by omega), pu_us]
  have v1 : s2 1 = state 0 := by rw [← hs2, pu_un (by omega), pu_un (by omega), pu_un (by omega), pu_us]
  have v2 : s2 2 = state 1 := by rw [← hs2, pu_un (by omega), pu_un (by omega), pu_un (by omega), pu_un (by omega), pu_us]
  have v3 : s2 3 = nI P := by rw [← hs2, pu_un (by omega), pu_us]
  have v4 : s2 4 = nI s4 + dl := by rw [← hs2, pu_un (by omega), pu_un (by omega), pu_un (by omega), pu_un (by omega), pu_un (by omega), low7 4 (by omega), st04]
  have v5 : s2 5 = state 5 + dl * pr := by rw [← hs2, pu_un (by omega), pu_un (by omega), pu_un (by omega), pu_un (by omega), pu_un (by omega), low7 5 (by omega), st05]
  have v6 : s2 6 = state 6 + 1 := by rw [← hs2, pu_us]
  have coin : ∀ j, j < K → (state (12 + j) = 1 ∧ s2 (7 + j) = state (7 + j) ∧ s2 (12 + j) = 1 ∧ rowsTo K (payC (pr - market 2) ky) ky j 6 = state (7 + j) ∧ rowsTo K (payC (pr - market 2) ky) ky j 7 = 1) ∨ (∃ v : Int32, s2 (7 + j) = v ∧ s2 (12 + j) = (if 0 ≤ v then 0 else 1) ∧ rowsTo K (payC (pr - market 2) ky) ky j 6 = v ∧ rowsTo K (payC (pr - market 2) ky) ky j 7 = (if 0 ≤ v then 0 else 1) ∧ -4300 ≤ v.toInt ∧ v.toInt ≤ 999 + 20493 * ((Y : Int) + 1)) := by
    intro j hj
    have ko := h.ko j hj
    have kz := h.kz j (by omega)
    have ky7 : ky j 7 = kv j 7 := pk j 7 (by omega)
    have ky6 : ky j 6 = kv j 6 := pk j 6 (by omega)
    have ky5 : ky j 5 = of (6 * j + 5) := (pk j 5 (by omega)).trans (h.kd j hj 5 (by omega))
    rw [hi7 _ (by omega), hi7 _ (by omega), ← hs1]
    unfold stTo rowsTo payC
    simp only [if_pos hj]
    rw [show 7 + j + 5 = 12 + j by omega, st0n (12 + j) (by omega) (by omega), show 7 + j - 7 = j by omega, show 12 + j - 12 = j by omega, ← ko]
    rcases kz with z | z
    · right
      have no : ¬ kv j 7 = 1 := by rw [z]; decide
      refine ⟨cM (pr - market 2) b of st0 j, ?_, ?_, ?_, ?_, ?_⟩
      · rw [if_pos ⟨by omega, by omega, no⟩]
      · rw [if_neg (fun q => by omega), if_pos ⟨by omega, by omega, no⟩]; rfl
      · rw [ky7, if_pos z]
        unfold sX1_earn
        rw [ltd]
        show ky j 6 + ((pr - market 2) * ky j 8 - ky j 5) = _
        unfold cM
        rw [st0n (7 + j) (by omega) (by omega), ky6, ky5, h.kc j hj, p8 j hj z, eb, bM_at h hj z]
      · rw [ky7, if_pos z]
        unfold sX1_earn
        rw [ltd]
        show (if 0 ≤ ky j 6 + ((pr - market 2) * ky j 8 - ky j 5) then (0 : Int32) else 1) = _
        unfold cM
        rw [st0n (7 + j) (by omega) (by omega), ky6, ky5, h.kc j hj, p8 j hj z, eb, bM_at h hj z]
      · unfold cM
        rw [st0n (7 + j) (by omega) (by omega), eb, bM_at h hj z]
        obtain ⟨x1, x2⟩ := h.kx j hj
        have x3 := h.kn j hj (ko.symm.trans z)
        obtain ⟨y1, y2⟩ := bd_to (h.pbd hxb hj).1 (by omega)
        obtain ⟨r1, r2⟩ := bd_to (h.kb j hj).2.2.2 (by omega)
        obtain ⟨c1, c2⟩ := bd_to hpr (by omega)
        obtain ⟨f1, f2⟩ := bd_to h.bf (by omega)
        have eg := i_sub (x := pr) (y := market 2) (by omega) (by omega)
        generalize pM print of state x j = bb at y1 y2
        generalize of (6 * j + 5) = rr at r1 r2
        generalize state (7 + j) = cc at x1 x2 x3
        generalize pr - market 2 = gg at eg
        have g1 : -20 ≤ gg.toInt := by omega
        have g2 : gg.toInt ≤ 99 := by omega
        have m1 : gg.toInt * bb.toInt ≤ 99 * bb.toInt := Int.mul_le_mul_of_nonneg_right g2 y1
        have m2 : -20 * bb.toInt ≤ gg.toInt * bb.toInt := Int.mul_le_mul_of_nonneg_right g1 y1
        have em := i_mul (x := gg) (y := bb) (by omega) (by omega)
        have es := i_sub (x := gg * bb) (y := rr) (by omega) (by omega)
        have ea := i_add (x := cc) (y := gg * bb - rr) (by omega) (by omega)
        omega
    · left
      have yes : ¬ kv j 7 = 0 := by rw [z]; decide
      refine ⟨z, ?_, ?_, ?_, ?_⟩
      · rw [if_neg (fun q => q.2.2 z), if_neg (fun q => by omega), st0n (7 + j) (by omega) (by omega)]
      · rw [if_neg (fun q => by omega), if_neg (fun q => q.2.2 z)]; exact z
      · rw [ky7, if_neg yes, ky6, h.kc j hj]
      · rw [ky7, if_neg yes, ky7, z]
  have payk : ∀ j c, c ≠ 6 → c ≠ 7 → rowsTo K (payC (pr - market 2) ky) ky j c = ky j c := by
    intro j c h6 h7
    unfold rowsTo payC
    split
    · split
      · unfold sX1_earn
        rw [ltd, pu_un h7, pu_un h6]
      · rfl
    · rfl
  refine ⟨v0.symm, ?_⟩
  refine LD.mk' hK ?_ ?_ ?_ ?_ ?_ ?_ ?_ ?_ ?_ ?_ ?_ ?_ ?_ ?_ ?_ ?_ ?_ ?_ h.bt h.bq h.bf ?_ ?_ ?_ h.bp h.bl ?_ h.kb h.kw ?_ ?_ ?_
  · rw [pu_un (by omega), pu_un (by omega), pu_un (by omega), pu_un (by omega), pf 2 (by omega)]; exact h.f2
  · rw [pu_un (by omega), pu_un (by omega), pu_un (by omega), pu_un (by omega), pf 3 (by omega)]; exact h.f3
  · rw [pu_un (by omega), pu_un (by omega), pu_un (by omega), pu_un (by omega), pf 4 (by omega)]; exact h.f4
  · rw [pu_un (by omega), pu_un (by omega), pu_un (by omega), pu_un (by omega), pf 5 (by omega)]; exact h.f5
  · rw [pu_un (by omega), pu_us, v0]
  · rw [pu_un (by omega), pu_un (by omega), pu_us, v1, pf 6 (by omega)]; exact h.f6
  · rw [pu_un (by omega), pu_un (by omega), pu_un (by omega), pu_us, v2, pf 7 (by omega)]; exact h.f7
  · rw [pu_un (by omega), pu_un (by omega), pu_un (by omega), pu_un (by omega), pf 9 (by omega)]; exact h.f9
  · rw [pu_un (by omega), pu_un (by omega), pu_un (by omega), pu_un (by omega), p10, v3]
  · rw [pu_us, v6, pf 11 (by omega), h.f11]
  · exact h.m0
  · exact h.m1
  · exact h.m2
  · unfold sX3_settle
    rw [pu_un (by omega), pu_us, v4, h.m3, es4]
  · unfold sX3_settle
    rw [pu_us, v5, h.m4]
  · intro j hj c hc
    rw [payk j c (by omega) (by omega), pk j c (by omega)]; exact h.kd j hj c hc
  · intro j hj
    rcases coin j hj with ⟨-, a1, -, a2, -⟩ | ⟨v, a1, -, a2, -⟩
    · rw [a1, a2]
    · rw [a1, a2]
  · intro j hj
    rcases coin j hj with ⟨-, -, a1, -, a2⟩ | ⟨v, -, a1, -, a2, -⟩
    · rw [a1, a2]
    · rw [a1, a2]
  · rw [v0]; exact hpr
  · rw [v1]; exact h.b0
  · rw [v2]; exact h.b1
  · rw [v4]; exact bd_mono hst (by omega)
  · intro j hj
    rcases coin j hj with ⟨-, a1, -⟩ | ⟨v, a1, -, -, -, a2, a3⟩
    · rw [a1]
      have := h.kx j hj
      omega
    · rw [a1]
      exact ⟨a2, by omega⟩
  · intro j hj hz
    rcases coin j hj with ⟨-, -, a1, -⟩ | ⟨v, a1, a2, -⟩
    · rw [a1] at hz
      exact absurd hz (by decide)
    · rw [a1]
      rw [a2] at hz
      by_cases g : 0 ≤ v
      · exact i_le (show (0 : Int32).toInt = 0 by decide) rfl g
      · rw [if_neg g] at hz
        exact absurd hz (by decide)
  · intro j hj
    rcases Nat.lt_or_ge j K with z | z
    · rcases coin j z with ⟨-, -, -, -, a2⟩ | ⟨v, -, -, -, a2, -⟩
      · rw [a2]; exact Or.inr rfl
      · rw [a2]
        by_cases g : 0 ≤ v
        · rw [if_pos g]; exact Or.inl rfl
        · rw [if_neg g]; exact Or.inr rfl
    · have : rowsTo K (payC (pr - market 2) ky) ky j = ky j := by unfold rowsTo; rw [if_neg (by omega)]
      rw [this, pk j 7 (by omega)]
      exact h.kz j hj
end
