/-! what the class's methods compute, in Nat, Bool, UInt64 -/
def cnt (th : Nat → Bool) : Nat → Nat
  | 0 => 0
  | n + 1 => cnt th n + (if th n then 1 else 0)
theorem cnt_le (th : Nat → Bool) : ∀ n, cnt th n ≤ n
  | 0 => Nat.le_refl 0
  | n + 1 => by have := cnt_le th n; unfold cnt; split <;> omega
theorem cnt_t {th : Nat → Bool} {n : Nat} (h : th n = true) : cnt th n + 1 = cnt th (n + 1) := by simp [cnt, h]
theorem cnt_f {th : Nat → Bool} {n : Nat} (h : th n = false) : cnt th n = cnt th (n + 1) := by simp [cnt, h]
/-- the first n places of g as f has them -/
def mix {α : Type} (n : Nat) (f g : Nat → α) : Nat → α := fun j => if j < n then f j else g j
theorem mix_0 {α : Type} (f g : Nat → α) : mix 0 f g = g := by funext j; simp [mix]
theorem mix_s {α : Type} (n : Nat) (f g : Nat → α) : va_up (mix n f g) n (f n) = mix (n + 1) f g := by
  funext j; unfold va_up mix
  by_cases h : j = n
  · subst h; simp
  · rw [if_neg h]
    by_cases h2 : j < n
    · rw [if_pos h2, if_pos (by omega)]
    · rw [if_neg h2, if_neg (by omega)]
/-- whether one of the first n is active -/
def act (th aw : Nat → Bool) (mc : Nat → Nat) (v : Nat) : Bool := th v && (aw v || decide (0 < mc v))
def anyAct (th aw : Nat → Bool) (mc : Nat → Nat) : Nat → Bool
  | 0 => false
  | n + 1 => anyAct th aw mc n || act th aw mc n
/-- the place of x among the first n from i on, or the end -/
def fnd (f : Nat → Nat) (x : Nat) : Nat → Nat → Nat
  | 0, i => i
  | n + 1, i => if f i = x then i else fnd f x n (i + 1)
theorem anyAct_of {th aw : Nat → Bool} {mc : Nat → Nat} {i : Nat} (h : act th aw mc i = true) : ∀ n, i < n → anyAct th aw mc n = true
  | 0, hn => absurd hn (Nat.not_lt_zero _)
  | n + 1, hn => by
    unfold anyAct
    by_cases e : i = n
    · subst e; simp [h]
    · rw [anyAct_of h n (by omega)]; rfl
def plc (ec tg : Nat → Nat) (fr to : Nat) : Nat := fnd (fun j => tg (fr * 12 + j)) to (ec fr) 0
def tof (ec tg : Nat → Nat) (fr pl : Nat) : Int32 := if pl < ec fr then nI (tg (fr * 12 + pl)) else -1
theorem fnd_le (f : Nat → Nat) (x : Nat) : ∀ n i, fnd f x n i ≤ i + n
  | 0, i => Nat.le_refl i
  | n + 1, i => by
    unfold fnd
    split
    · omega
    · have := fnd_le f x n (i + 1); omega
theorem plc_le (ec tg : Nat → Nat) (fr to : Nat) : plc ec tg fr to ≤ ec fr := by
  have := fnd_le (fun j => tg (fr * 12 + j)) to (ec fr) 0
  unfold plc; omega
/-- n places from b on moved down by one -/
def shl {α : Type} (f : Nat → α) (b : Nat) : Nat → Nat → α
  | 0 => f
  | n + 1 => va_up (shl f b n) (b + n) (shl f b n (b + n + 1))
/-- an edge cut -/
def cutEc (ec tg : Nat → Nat) (fr to : Nat) : Nat → Nat := if plc ec tg fr to = ec fr then ec else va_up ec fr (ec fr - 1)
def cutF {α : Type} (ec tg : Nat → Nat) (f : Nat → α) (fr to : Nat) : Nat → α := if plc ec tg fr to = ec fr then f else shl f (fr * 12 + plc ec tg fr to) (ec fr - 1 - plc ec tg fr to)
def cutR (ec tg : Nat → Nat) (fr to : Nat) : Bool := !(plc ec tg fr to == ec fr)
theorem va_up_all {α : Type} {P : α → Prop} {f : Nat → α} {k : Nat} {x : α} (h : ∀ j, P (f j)) (hx : P x) : ∀ j, P (va_up f k x j) := fun j => by
  unfold va_up; split
  · exact hx
  · exact h j
theorem shl_all {α : Type} {P : α → Prop} {f : Nat → α} {b : Nat} (h : ∀ j, P (f j)) : ∀ n j, P (shl f b n j)
  | 0 => h
  | n + 1 => va_up_all (shl_all h n) (shl_all h n _)
theorem cutEc_all {ec tg : Nat → Nat} {fr to : Nat} (h : ∀ j, ec j ≤ 12) : ∀ j, cutEc ec tg fr to j ≤ 12 := by
  unfold cutEc
  split
  · exact h
  · exact va_up_all (P := fun z => z ≤ 12) h (by have := h fr; omega)
theorem cutF_all {α : Type} {P : α → Prop} {ec tg : Nat → Nat} {f : Nat → α} {fr to : Nat} (h : ∀ j, P (f j)) : ∀ j, P (cutF ec tg f fr to j) := by
  unfold cutF
  split
  · exact h
  · exact shl_all h _
/-- the edges to v cut from the rows of the first n -/
def dropS (ec tg : Nat → Nat) (le : Nat → UInt64) (v : Nat) : Nat → (Nat → Nat) × (Nat → Nat) × (Nat → UInt64)
  | 0 => (ec, tg, le)
  | n + 1 => (cutEc (dropS ec tg le v n).1 (dropS ec tg le v n).2.1 n v, cutF (dropS ec tg le v n).1 (dropS ec tg le v n).2.1 (dropS ec tg le v n).2.1 n v, cutF (dropS ec tg le v n).1 (dropS ec tg le v n).2.1 (dropS ec tg le v n).2.2 n v)
def dropC (ec tg : Nat → Nat) (le : Nat → UInt64) (v : Nat) : Nat → Nat
  | 0 => 0
  | n + 1 => dropC ec tg le v n + (if cutR (dropS ec tg le v n).1 (dropS ec tg le v n).2.1 n v then 1 else 0)
theorem dropS_inv {ec tg : Nat → Nat} {le : Nat → UInt64} {v : Nat} (hE : ∀ j, ec j ≤ 12) (hT : ∀ j, tg j < 12) : ∀ n, (∀ j, (dropS ec tg le v n).1 j ≤ 12) ∧ ∀ j, (dropS ec tg le v n).2.1 j < 12
  | 0 => ⟨hE, hT⟩
  | n + 1 => ⟨cutEc_all (dropS_inv hE hT n).1, cutF_all (P := fun z => z < 12) (dropS_inv hE hT n).2⟩
/-- the worker's places that are there set to x, the first n of them -/
def wipF {α : Type} (th : Nat → Bool) (x : α) (f : Nat → α) (wk : Nat) : Nat → Nat → α
  | 0 => f
  | n + 1 => if th (wk + 3 * n) then va_up (wipF th x f wk n) (wk + 3 * n) x else wipF th x f wk n
def wipC (th : Nat → Bool) (wk : Nat) : Nat → Nat
  | 0 => 0
  | n + 1 => wipC th wk n + (if th (wk + 3 * n) then 1 else 0)
/-! the outbox -/
/-- the letters for one vertex, of the first n senders, laid into its mail -/
def delC (fi : Nat → Bool) (b : Nat) : Nat → Nat
  | 0 => 0
  | n + 1 => delC fi b n + (if fi (b + n) then 1 else 0)
def delM (fi : Nat → Bool) (lt : Nat → UInt64) (ml : Nat → UInt64) (b : Nat) : Nat → Nat → UInt64
  | 0 => ml
  | n + 1 => if fi (b + n) then va_up (delM fi lt ml b n) (b + delC fi b n) (lt (b + n)) else delM fi lt ml b n
theorem delC_le (fi : Nat → Bool) (b : Nat) : ∀ n, delC fi b n ≤ n
  | 0 => Nat.le_refl 0
  | n + 1 => by have := delC_le fi b n; unfold delC; split <;> omega
