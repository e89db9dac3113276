/-! WHAT A CLOCK DOES, in numbers: K holds a clock's numbers by the places 0 shown, 1 rest, 2 chain, 3 oil, 4 bellows, 5 goes, 6 calls, 7 missed, 8 latest, 9 a, 10 b, 11 swing, 12 from, 13 till -/
def k_fm (x y : Int32) : Int32 := if 0 ≤ (x ^^^ y) then (x - x / y * y) else if (x - x / y * y) = 0 then (x - x / y * y) else (x - x / y * y) + y
def k_advW (K : Nat → Int32) (a b : Int32) : Int32 := if b = 0 then 0 else if 20 ≤ K 3 then 900 * a / b + K 11 else 900 * a / b + K 11 - (900 * a / b + K 11) / 10
def k_adv (K : Nat → Int32) : Int32 := k_advW K (K 9) (K 10)
def k_due (t : Int32) : Int32 := if t = 0 then 12 else if t - t / 60 * 60 = 0 then t / 60 else if t - t / 30 * 30 = 0 then 1 else 0
def k_shutAt (K : Nat → Int32) (t : Int32) : Int32 := if K 12 = -1 then 0 else if K 13 ≤ K 12 then (if K 12 ≤ t then 1 else if K 13 ≤ t then 0 else 1) else (if t < K 12 then 0 else if K 13 ≤ t then 0 else 1)
def k_cuck (K : Nat → Int32) (due d : Int32) : Nat → Int32 := upd (upd (upd (upd K 4 (K 4 - d)) 6 (K 6 + d)) 8 (K 8 + d)) 7 (K 7 + (due - d))
def k_cuckoo (K : Nat → Int32) (due : Int32) : Nat → Int32 := k_cuck K due (if K 4 < due then K 4 else due)
def k_on (K : Nat → Int32) : Nat → Int32 := upd K 0 (K 0 + 1 - (K 0 + 1) / 720 * 720)
def k_tick (K : Nat → Int32) : Nat → Int32 := if k_shutAt (k_on K) (k_on K 0) = 0 then k_cuckoo (k_on K) (k_due (k_on K 0)) else k_on K
def k_ticks : Nat → (Nat → Int32) → Nat → Int32
  | 0, K => K
  | j + 1, K => k_ticks j (k_tick K)
def k_turn (K : Nat → Int32) : Nat → Int32 := k_ticks ((K 1 + k_adv K) / 900).toInt.toNat (upd K 1 (K 1 + k_adv K - (K 1 + k_adv K) / 900 * 900))
def k_wearO (n : Int32) (K : Nat → Int32) : Nat → Int32 := if n - n / 10 * 10 = 0 then (if K 3 ≤ 0 then upd K 2 (K 2 - 1) else upd (upd K 2 (K 2 - 1)) 3 (K 3 - 1)) else upd K 2 (K 2 - 1)
def k_wear (n : Int32) (K : Nat → Int32) : Nat → Int32 := if 0 < K 2 - 1 then k_wearO n K else upd (k_wearO n K) 5 0
/-- a clock's minute, with the minute's number -/
def k_min (n : Int32) (K : Nat → Int32) : Nat → Int32 := if K 5 = 0 then upd K 8 0 else k_wear n (k_turn (upd K 8 0))
def k_nudge (K : Nat → Int32) : Int32 := if K 5 = 0 then (if K 2 = 0 then 0 else 1) else 0
def k_stand (K : Nat → Int32) : Int32 := if K 5 = 0 then 0 else K 2
def k_read (K : Nat → Int32) (w : Int32) : Int32 :=
  if w = 0 then K 0 else if w = 1 then K 1 else if w = 2 then K 2 else if w = 3 then K 3 else if w = 4 then K 4 else if w = 5 then (if K 5 = 0 then 0 else 1) else if w = 6 then k_adv K else if w = 7 then K 6 else if w = 8 then K 7 else if w = 9 then K 8 else (if k_shutAt K (K 0) = 0 then 0 else 1)
def k_mixR (K : Nat → Int32) : Nat → Nat → Int64 → Int64
  | 0, _, d => d
  | j + 1, w, d => k_mixR K j (w + 1) (d * 31 + (k_read K (nI w)).toInt64)
def k_mix (K : Nat → Int32) (d : Int64) : Int64 := k_mixR K 11 0 (((((d * 31 + (K 9).toInt64) * 31 + (K 10).toInt64) * 31 + (K 11).toInt64) * 31 + (K 12).toInt64) * 31 + (K 13).toInt64)
def k_abs (x : Int32) : Int32 := if 0 ≤ x then x else 0 - x
/-- the gears' search: j pairs on, from a, b; the nearest so far and its number -/
def k_best1 (K : Nat → Int32) (a b : Int32) (u : Int32 × Int32) : Int32 × Int32 := if u.2 ≤ k_abs (k_advW K a b - 900) then u else (100 * a + b, k_abs (k_advW K a b - 900))
def k_bestB (K : Nat → Int32) (a : Int32) : Nat → Nat → Int32 × Int32 → Int32 × Int32
  | 0, _, u => u
  | j + 1, b, u => k_bestB K a j (b + 1) (k_best1 K a (nI b) u)
def k_bestA (K : Nat → Int32) : Nat → Nat → Int32 × Int32 → Int32 × Int32
  | 0, _, u => u
  | j + 1, a, u => k_bestA K j (a + 1) (k_bestB K (nI a) 21 20 u)
def k_true (K : Nat → Int32) : Int32 := (k_bestA K 21 20 (0, 1000000)).1
def k_new (K : Nat → Int32) : Nat → Int32 := upd (upd (upd (upd (upd (upd (upd (upd (upd (upd (upd (upd (upd (upd K 9 30) 10 30) 11 0) 2 600) 3 100) 4 60) 5 1) 0 0) 1 0) 12 (-1)) 13 0) 6 0) 7 0) 8 0
theorem cu_ne {x k : Int32} (h : ¬ x = k) (z : Int) (hz : k.toInt = z) : ¬ x.toInt = z := fun e => h (Int32.toInt_inj.mp (e.trans hz.symm))
theorem cu_dn0 {x : Int32} (h : x.toInt.toNat = 0) : x ≤ 0 := by
  rw [Int32.le_iff_toInt_le]
  show x.toInt ≤ 0
  omega
theorem cu_dn1 {x : Int32} {j : Nat} (h : x.toInt.toNat = j + 1) : ¬ x ≤ 0 := by
  rw [Int32.le_iff_toInt_le]
  show ¬ x.toInt ≤ 0
  omega
theorem cu_dn {x : Int32} {j : Nat} (h : x.toInt.toNat = j + 1) : (x + (-1)).toInt.toNat = j := by
  have h1 := Int32.le_toInt x
  have h2 := Int32.toInt_lt x
  rw [Int32.toInt_add]
  have e : (-1 : Int32).toInt = -1 := by decide
  rw [e, Int.bmod_def]
  omega
theorem cu_nb {x : Int32} (h : x = 0 ∨ x = 1) : narrow .boolean (.int x) = .int x := by rcases h with rfl | rfl <;> rfl
theorem cu_fb {x : Int32} (h : x = 0 ∨ x = 1) : fits .boolean (.int x) = true := by rcases h with rfl | rfl <;> rfl
