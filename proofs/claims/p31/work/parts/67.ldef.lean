/-! the law's own arrays, as numbers: T f i, f = 0 papers (until + 1), 1 tenders, 2 deposits (+ 1; 0: no lot), 3 bids, 4 their order, 5 who lacks papers, 6 events, 7 awards, 8 complaints, 9 contracts, 10 what was lost, 11 counts (0 today, 1 tenders, 2 bids made, 3 events, 4 awards, 5 complaints, 6 contracts) -/
def t_op (T : MS) (t : Nat) : Bool := decide (T 1 t % 1024 ≤ T 11 0)
def t_tkf (T : MS) (q : Nat) : Nat → Bool
  | 0 => t_op T (q / 8) && decide (0 < T 3 q) && decide (T 5 q = 0)
  | k + 1 => if T 6 k / 4 % 16 = q ∧ T 6 k % 4 ≠ 1 then decide (T 6 k % 4 = 2) else t_tkf T q k
def t_tk (T : MS) (q : Nat) : Bool := t_tkf T q (T 11 3)
def t_quf (T : MS) (q : Nat) : Nat → Nat
  | 0 => T 3 q / 1048576
  | k + 1 => if T 6 k / 4 % 16 = q ∧ T 6 k % 4 = 1 then T 6 k / 64 else t_quf T q k
def t_qu (T : MS) (q : Nat) : Nat := t_quf T q (T 11 3)
def t_pr (T : MS) (q : Nat) : Nat := T 3 q % 1048576
def t_lsf (T : MS) (q : Nat) : Nat → Nat
  | 0 => 1048576
  | k + 1 => if t_tk T (q / 4 * 4 + k) = true ∧ t_pr T (q / 4 * 4 + k) < t_lsf T q k then t_pr T (q / 4 * 4 + k) else t_lsf T q k
def t_we (T : MS) (t : Nat) : Nat := T 1 t / 65536 % 128
def t_po (T : MS) (q : Nat) : Nat := t_lsf T q 4 * 1000 / t_pr T q * t_we T (q / 8) + 10 * t_qu T q * (100 - t_we T (q / 8))
/-- bid a is better than bid b -/
abbrev t_bt (T : MS) (a b : Nat) : Prop := t_po T b < t_po T a ∨ t_po T b = t_po T a ∧ (t_pr T a < t_pr T b ∨ t_pr T a = t_pr T b ∧ T 4 a < T 4 b)
def t_bsf (T : MS) (lot z : Nat) : Nat → Option Nat
  | 0 => none
  | k + 1 => if z / 2 ^ k % 2 = 1 ∨ t_tk T (4 * lot + k) = false then t_bsf T lot z k else match t_bsf T lot z k with
    | none => some (4 * lot + k)
    | some f => if t_bt T (4 * lot + k) f then some (4 * lot + k) else some f
def t_best (T : MS) (lot z : Nat) : Option Nat := t_bsf T lot z 4
def t_sts (T : MS) (lot : Nat) : Nat → Nat
  | 0 => 0
  | k + 1 => match t_best T lot (t_sts T lot k) with
    | none => t_sts T lot k
    | some f => t_sts T lot k ||| 2 ^ (f % 4)
def t_oof (T : MS) (a : Nat) : Nat → Nat
  | 0 => 0
  | k + 1 => t_oof T a k + (if T 8 k % 32 = a ∧ T 8 k / 512 % 4 = 0 then 1 else 0)
def t_oo (T : MS) (a : Nat) : Nat := t_oof T a (T 11 5)
def t_gn (T : MS) (a : Nat) : Bool := decide (T 7 a / 65536 % 2 = 1)
def t_su (T : MS) (a : Nat) : Nat := T 7 a / 16 % 4096 + T 1 (T 7 a % 4 / 2) / 8388608
def t_se (T : MS) (a : Nat) : Bool := !t_gn T a && decide (t_oo T a = 0) && decide (t_su T a ≤ T 11 0)
def t_stf (T : MS) (lot : Nat) : Nat → Option Nat
  | 0 => none
  | k + 1 => match t_stf T lot k with
    | some a => some a
    | none => if T 7 k % 4 = lot ∧ t_gn T k = false then some k else none
def t_st (T : MS) (lot : Nat) : Option Nat := t_stf T lot (T 11 4)
def t_bo (T : MS) (a : Nat) : Nat := 4 * (T 7 a % 4) + T 7 a / 4 % 4
/-- a new award -/
def t_gv (T : MS) (lot : Nat) : MS := match t_best T lot 0 with
  | none => T
  | some f => mu (mu T 7 (T 11 4) (lot + 4 * (f % 4) + 16 * T 11 0)) 11 4 (T 11 4 + 1)
def t_gvr (T : MS) (lot : Nat) : Int32 := match t_best T lot 0 with
  | none => -1
  | some _ => nI (T 11 4)

def lcap (f : Nat) : Nat := match f with
  | 0 => 2001 | 1 => 268435455 | 2 => 10001 | 3 => 134217727 | 4 => 1000 | 5 => 1 | 6 => 8191 | 7 => 16777215 | 8 => 16777215 | 9 => 4194303 | 10 => 1200000000 | 11 => 2000 | _ => 0

/-! where the class's numbers lie -/
abbrev ml (j : Nat) : Nat := 3 * (j / 2) + j % 2
abbrev mq (q : Nat) : Nat := 8 * (3 * (q / 8) + q / 4 % 2) + q % 4
def LRg (M T : MS) : Prop := T 11 0 = M 1 0 ∧ T 11 1 = M 3 0 ∧ M 3 0 ≤ 2 ∧ T 11 2 = M 15 0 ∧ T 11 4 = M 16 0 ∧ T 11 5 = M 22 0 ∧ T 11 6 = M 29 0
def LRp (M T : MS) : Prop := ∀ i, i < 24 → T 0 i = M 2 i
def LRt (M T : MS) : Prop := ∀ t, t < M 3 0 → T 1 t = M 4 t + 1024 * M 5 t + 65536 * M 6 t + 8388608 * M 7 t
def LRl (M T : MS) : Prop := (∀ j, j < 4 → T 2 j = if j % 2 < M 8 (j / 2) then M 9 (ml j) + 1 else 0) ∧ (∀ t, t < 2 → M 8 t ≤ 2) ∧ ∀ t, M 3 0 ≤ t → M 8 t = 0
def LRb (M T : MS) : Prop := (∀ q, q < 16 → T 3 q % 1048576 = M 10 (mq q) ∧ (M 10 (mq q) = 0 → T 3 q = 0) ∧ (0 < M 10 (mq q) → T 4 q = M 12 (mq q) + 1 ∧ M 12 (mq q) < M 15 0)) ∧ (∀ q r, q < 16 → r < 16 → 0 < M 10 (mq q) → 0 < M 10 (mq r) → M 12 (mq q) = M 12 (mq r) → q = r) ∧ (∀ g b, 4 ≤ b → b < 8 → M 10 (8 * g + b) = 0) ∧ ∀ g b, b < 8 → M 8 (g / 3) ≤ g % 3 → M 10 (8 * g + b) = 0
/-- what has happened to a bid -/
def LRs (M T : MS) : Prop := (∀ q, q < 16 → t_tk T q = m_tp M (mq q) ∧ (0 < M 10 (mq q) → t_qu T q = M 11 (mq q))) ∧
  (∀ q, q < 16 → m_op M (q / 8) = true → q / 8 < M 3 0 → 0 < M 10 (mq q) → (M 13 (mq q) ≠ 0 ↔ T 5 q = 1 ∧ ∀ k, k < T 11 3 → T 6 k ≠ 2 + 4 * q)) ∧
  (∀ q, q < 16 → (M 3 0 ≤ q / 8 ∨ m_op M (q / 8) = false) → T 5 q = 0 ∧ M 13 (mq q) = 0 ∧ M 14 (mq q) = 0) ∧
  (∀ q, q < 16 → T 5 q ≤ 1) ∧
  ∀ k, k < T 11 3 → T 6 k % 4 < 3 ∧ T 6 k / 64 ≤ 100 ∧ (T 6 k % 4 ≠ 1 → T 6 k / 64 = 0) ∧ T 6 k / 4 % 16 / 8 < M 3 0 ∧ m_op M (T 6 k / 4 % 16 / 8) = true ∧ 0 < M 10 (mq (T 6 k / 4 % 16))
def LRa (M T : MS) : Prop := ∀ k, k < M 16 0 → M 17 k = ml (T 7 k % 4) ∧ T 7 k = T 7 k % 4 + 4 * M 18 k + 16 * M 19 k + 65536 * M 20 k + 131072 * M 21 k ∧ M 18 k < 4 ∧ T 7 k % 4 / 2 < M 3 0 ∧ T 7 k % 4 % 2 < M 8 (T 7 k % 4 / 2) ∧ m_op M (T 7 k % 4 / 2) = true ∧ 0 < M 10 (8 * M 17 k + M 18 k) ∧ M 19 k ≤ M 1 0
def LRc (M T : MS) : Prop := ∀ k, k < M 22 0 → T 8 k = M 23 k + 32 * M 24 k + 128 * M 25 k + 512 * M 26 k + 2048 * M 28 k + 4096 * (if M 26 k = 2 then M 27 k else 0) ∧ M 23 k < M 16 0 ∧ M 24 k < 4 ∧ M 25 k < 3 ∧ M 27 k ≤ M 1 0
def LRd (M T : MS) : Prop := ∀ k, k < M 29 0 → T 9 k = M 30 k + 32 * M 31 k ∧ M 30 k < M 16 0
def LRw (M T : MS) : Prop := ∀ b, b < 4 → T 10 b = M 32 b
/-- nothing stands where nothing was made yet -/
def LRz (M : MS) : Prop := (∀ c, M 22 0 ≤ c → M 26 c = 0 ∧ M 27 c = 0 ∧ M 28 c = 0) ∧ (∀ a, M 16 0 ≤ a → M 20 a = 0 ∧ M 21 a = 0) ∧ ∀ c, M 29 0 ≤ c → M 31 c = 0
/-- the class's numbers and the law's own -/
def LR (M T : MS) : Prop := LRg M T ∧ LRp M T ∧ LRt M T ∧ LRl M T ∧ LRb M T ∧ LRs M T ∧ LRa M T ∧ LRc M T ∧ LRd M T ∧ LRw M T ∧ LRz M
