/-! moves of a task, out of its numbers -/
def pc_n (x : Nat) : Nat := x % 2 + x / 2 % 2 + x / 4 % 2 + x / 8 % 2 + x / 16 % 2 + x / 32 % 2 + x / 64 % 2 + x / 128 % 2
def bl_n (x : Nat) : List Nat := ((List.range 8).filter (fun c => x.testBit c)).map (fun c => 2 ^ c)
def bk_n (x k : Nat) : Nat := (bl_n x).getD k 0
def tk_n (j x k : Nat) : Nat := if j = 0 then (if k = 0 then x else 0) else bk_n x k
def pu_n (x s : Nat) : Nat := (if s % 2 = 1 then bk_n x 0 else 0) ||| (if s / 2 % 2 = 1 then bk_n x 1 else 0) ||| (if s / 4 % 2 = 1 then bk_n x 2 else 0)
def ok_n (sp x s : Nat) : Bool := pc_n (pu_n x s) == pc_n s && (if sp = 0 then pu_n x s == x else if sp = 1 then pc_n s == 1 else true)
def mf_n (kind part whole : Nat) : Bool := if kind = 0 then part == whole else if kind = 1 then pc_n part == 1 else true
def pf_n (kind x m : Nat) : Bool := m != 0 && ((m &&& x) == m && mf_n kind m x)
def ls_n (kind x : Nat) : List Nat := (List.range (x + 1)).filter (pf_n kind x)
def go_n (x : Nat) : Bool := x != 0 && decide (pc_n x ≤ 3)
def ft_n (x j : Nat) : Bool := let l := ls_n (if j = 0 then 0 else 1) x; decide (l.length ≤ 3) && (l.all (fun e => e != 0 && (List.range 3).any (fun k => tk_n j x k == e))) && (List.range 3).all (fun k => tk_n j x k == 0 || l.contains (tk_n j x k))
def fp_n (x s : Nat) : Bool := let l := ls_n s x; decide (l.length ≤ 7) && (l.all (fun e => e != 0 && (List.range 8).any (fun k => k != 0 && ok_n s x k && pu_n x k == e))) && (List.range 8).all (fun k => k == 0 || !ok_n s x k || l.contains (pu_n x k))
theorem ft_all : ∀ x, x < 256 → go_n x = true → ∀ j, j < 3 → ft_n x j = true := by decide +kernel
theorem fp_all : ∀ x, x < 256 → go_n x = true → ∀ s, s < 3 → fp_n x s = true := by decide +kernel
