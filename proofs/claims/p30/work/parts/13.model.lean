def aCf2 (s sp : Nat → Int32) (o : Int32) : Int32 := if o < 0 then 0 else if sp (11 * o.toNatClampNeg + 4) - s (11 * o.toNatClampNeg + 5) < 2 then 0 else 1
/-- does somebody on that seat give a cold; sp: what the colds were -/
def aCf (s sp : Nat → Int32) (N : Nat) (row seat : Int32) : Int32 := if aIn seat 0 7 = 0 then aCf2 s sp (-1000004) else aCf2 s sp (aFind s row seat N 0)
def aCl (c : Int32) : Int32 := if c ≤ 5 then (if 0 ≤ c then c else 0) else 5
def aNv (s sp : Nat → Int32) (N k : Nat) : Int32 :=
  if aCf s sp N (s (11 * k + 0)) (s (11 * k + 1) - 1) = 0 then (if aCf s sp N (s (11 * k + 0)) (s (11 * k + 1) + 1) = 0 then aCl (s (11 * k + 4) + (-1)) else aCl (s (11 * k + 4) + 1)) else aCl (s (11 * k + 4) + 1)
def aNl (sp : Nat → Int32) (N : Nat) : Nat → Nat → (Nat → Int32) → (Nat → Int32)
  | 0, _, s => s
  | n + 1, k, s => aNl sp N n (k + 1) (upd s (11 * k + 4) (aNv s sp N k))
def aNe (t : Nat → Int32) : Nat → Int32 := upd t 209 (t 209 + 1)
def aNight (s sp : Nat → Int32) (N : Nat) : Nat → Int32 := aNe (aNl sp N N 0 s)
/-- the bidders with a cold, as a set -/
def aCo (s : Nat → Int32) : Nat → Nat → Nat → Nat
  | 0, _, a => a
  | n + 1, k, a => if s (11 * k + 4) ≤ 0 then aCo s n (k + 1) a else aCo s n (k + 1) (a ||| 2 ^ k)
theorem z_or (a b : Nat) : nI a ||| nI b = nI (a ||| b) := by
  apply Int32.toBitVec_inj.mp
  show BitVec.ofNat 32 a ||| BitVec.ofNat 32 b = BitVec.ofNat 32 (a ||| b)
  simp [BitVec.ofNat_or]
theorem z_shl : ∀ k : Nat, k < 12 → (1 : Int32) <<< (nI k &&& 31) = nI (2 ^ k) := by decide +kernel
theorem z_or1 {a k : Nat} (hk : k < 12) : nI a ||| ((1 : Int32) <<< (nI k &&& 31)) = nI (a ||| 2 ^ k) := by rw [z_shl k hk, z_or]
def aPop : Nat → Nat → Nat
  | 0, _ => 0
  | f + 1, v => v % 2 + aPop f (v / 2)
theorem aCo_lt {s : Nat → Int32} : ∀ n k a : Nat, k + n ≤ 12 → a < 4096 → aCo s n k a < 4096
  | 0, _, _, _, h => h
  | n + 1, k, a, hk, h => by
    unfold aCo
    split
    · exact aCo_lt n (k + 1) a (by omega) h
    · refine aCo_lt n (k + 1) _ (by omega) ?_
      exact Nat.or_lt_two_pow (n := 12) h (Nat.pow_lt_pow_right (by decide) (by omega))
def aNgt (s sp : Nat → Int32) (N : Nat) : Int32 × Bool × (Nat → Int32) := if s 148 = 1 then (-1000002, false, s) else if s 209 = 999 then (-1000003, false, s) else (nI (aPop 12 (aCo (aNight s sp N) N 0 0)), true, aNight s sp N)
theorem aNl_n {sp : Nat → Int32} {N : Nat} {j : Nat} : ∀ (n k : Nat) (s : Nat → Int32), (∀ i, k ≤ i → i < k + n → j ≠ 11 * i + 4) → aNl sp N n k s j = s j
  | 0, _, _, _ => rfl
  | n + 1, k, s, h => by
    unfold aNl
    rw [aNl_n n (k + 1) _ (fun i h1 h2 => h i (by omega) (by omega)), upd_n (h k (by omega) (by omega))]
