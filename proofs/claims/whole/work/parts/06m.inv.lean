/-! what holds between the class and the reference, between any two calls -/
/-- a row of five: tenant, first square, how many, first and last night -/
def okL (n nt : Nat) (ld : Nat → Nat) (k : Nat) : Prop := ld (5 * k) < nt ∧ ld (5 * k + 1) < n ∧ 1 ≤ ld (5 * k + 2) ∧ ld (5 * k + 2) ≤ n ∧ ld (5 * k + 3) ≤ ld (5 * k + 4) ∧ ld (5 * k + 4) ≤ 99
/-- the text -/
def gT (xl : Int32) (xb : Nat → Int32) (ml : Int32) (mt : Nat → Int32) : Prop := ∃ (k : Nat) (bt : Nat → Nat), k ≤ 300 ∧ xl = nI k ∧ ml = nI k ∧ ∀ j, j < k → bt j < 256 ∧ xb j = nI (bt j) ∧ mt j = nI (bt j)
/-- the sky that was told -/
def gS (n ns nt : Nat) (sa sp sb : Nat → Nat) (sq st te : Int32) (starts paces brights : Nat → Int32) (msq mst mte : Int32) (ms : Nat → Int32) : Prop :=
  2 ≤ n ∧ n ≤ 8 ∧ ns ≤ 8 ∧ nt ≤ 4 ∧ sq = nI n ∧ msq = nI n ∧ st = nI ns ∧ mst = nI ns ∧ te = nI nt ∧ mte = nI nt ∧
  ∀ j, j < ns → sa j < n ∧ sp j ≤ 9 ∧ 1 ≤ sb j ∧ sb j ≤ 9 ∧ starts j = nI (sa j) ∧ paces j = nI (sp j) ∧ brights j = nI (sb j) ∧ ms (3 * j) = nI (sa j) ∧ ms (3 * j + 1) = nI (sp j) ∧ ms (3 * j + 2) = nI (sb j)
/-- leases -/
def gL (n nt cnt : Nat) (ld : Nat → Nat) (lsize : Int32) (lparts s : Nat → Int32) : Prop :=
  cnt ≤ 10 ∧ lsize = nI cnt ∧ s 6 = nI cnt ∧ (∀ j, j < 5 * cnt → lparts j = nI (ld j) ∧ s (7 + j) = nI (ld j)) ∧ ∀ k, k < cnt → okL n nt ld k
/-- what may be undone: ub begun (or ended), uk its place, ud its row; cn: how many leases there were ahead of it -/
def gU (n nt cnt un : Nat) (ub : Nat → Bool) (uk ud cn : Nat → Nat) (usize : Int32) (uparts places s : Nat → Int32) : Prop :=
  un ≤ 6 ∧ usize = nI un ∧ s 57 = nI un ∧ cn un = cnt ∧
  ∀ e, e < un → cn e ≤ 10 ∧ s (58 + 7 * e) = (if ub e = true then 1 else 0) ∧ s (59 + 7 * e) = nI (uk e) ∧
    (ub e = true → places e = -1 ∧ cn (e + 1) = cn e + 1 ∧ uk e = cn e) ∧
    (ub e = false → places e = nI (uk e) ∧ cn e = cn (e + 1) + 1 ∧ uk e ≤ cn (e + 1) ∧ okL n nt ud e ∧ ∀ j, j < 5 → uparts (5 * e + j) = nI (ud (5 * e + j)) ∧ s (60 + 7 * e + j) = nI (ud (5 * e + j)))
/-- NOW, or an image of it -/
def gN (n nt : Nat) (night lot lsize usize : Int32) (purses lparts uparts places s : Nat → Int32) : Prop :=
  (∃ d : Nat, d ≤ 99 ∧ night = nI d ∧ s 0 = nI d) ∧ lot = s 1 ∧ (∀ j, j < nt → purses j = s (2 + j)) ∧
  ∃ (cnt un : Nat) (ld : Nat → Nat) (ub : Nat → Bool) (uk ud cn : Nat → Nat), gL n nt cnt ld lsize lparts s ∧ gU n nt cnt un ub uk ud cn usize uparts places s
/-- the squares of a row, as bits -/
def sbits (n a l : Nat) : Nat := (List.range n).foldl (fun x q => if (q + n - a) % n < l then x + 2 ^ q else x) 0
/-- two rows share a square on a night -/
def shareN (n : Nat) (od : Nat → Nat) (i j : Nat) : Bool := (List.range n).any (fun q => decide ((q + n - od (5 * i + 1)) % n < od (5 * i + 2)) && decide ((q + n - od (5 * j + 1)) % n < od (5 * j + 2))) && decide (od (5 * i + 3) ≤ od (5 * j + 4)) && decide (od (5 * j + 3) ≤ od (5 * i + 4))
def cbits (n : Nat) (od : Nat → Nat) (j : Nat) : Nat := (List.range j).foldl (fun x i => if shareN n od i j = true then x + 2 ^ i else x) 0
/-- offers -/
def gO (n nt : Nat) (osize : Int32) (oparts prices sqb cls : Nat → Int32) (mo : Int32) (mof : Nat → Int32) : Prop :=
  ∃ (on : Nat) (od op : Nat → Nat), on ≤ 8 ∧ osize = nI on ∧ mo = nI on ∧ ∀ k, k < on → okL n nt od k ∧ 1 ≤ op k ∧ op k ≤ 99 ∧ (∀ e, e < 5 → oparts (5 * k + e) = nI (od (5 * k + e)) ∧ mof (6 * k + e) = nI (od (5 * k + e))) ∧ prices k = nI (op k) ∧ mof (6 * k + 5) = nI (op k) ∧ sqb k = nI (sbits n (od (5 * k + 1)) (od (5 * k + 2))) ∧ cls k = nI (cbits n od k)
/-- what was seen -/
def gE (n ns : Nat) (size : Int32) (stars squares : Nat → Int32) (mm : Int32) (ms : Nat → Int32) : Prop :=
  ∃ (en : Nat) (es eq : Nat → Nat), en ≤ 8 ∧ size = nI en ∧ mm = nI en ∧ ∀ j, j < en → es j < ns ∧ eq j < n ∧ stars j = nI (es j) ∧ squares j = nI (eq j) ∧ ms (2 * j) = nI (es j) ∧ ms (2 * j + 1) = nI (eq j)
def Inv (v : Nat → Int32) (r : Nat → Nat → Int32) (t : Int64) (vm : Nat → Int32) (rm : Nat → Nat → Int32) (tm : Int64) : Prop :=
  ∃ (n ns nt : Nat) (sa sp sb : Nat → Nat),
    gS n ns nt sa sp sb (v 5) (v 6) (v 7) (r 2) (r 3) (r 4) (vm 7) (vm 8) (vm 9) (rm 1) ∧
    gT (v 0) (r 0) (vm 1) (rm 0) ∧
    gN n nt (v 15) (v 16) (v 18) (v 20) (r 12) (r 13) (r 14) (r 15) (rm 4) ∧
    (r 24 0 = rm 6 0 ∧ (r 24 0 = 0 ∨ r 24 0 = 1) ∧ (r 24 0 = 1 → gN n nt (v 21) (v 22) (v 24) (v 26) (r 16) (r 17) (r 18) (r 19) (fun k => rm 5 k))) ∧
    (r 24 1 = rm 6 1 ∧ (r 24 1 = 0 ∨ r 24 1 = 1) ∧ (r 24 1 = 1 → gN n nt (v 27) (v 28) (v 30) (v 32) (r 20) (r 21) (r 22) (r 23) (fun k => rm 5 (100 + k)))) ∧
    gO n nt (v 34) (r 25) (r 26) (r 27) (r 28) (vm 14) (rm 7) ∧
    gE n ns (v 35) (r 31) (r 32) (vm 15) (rm 8) ∧
    t = tm ∧ v 8 = 10 ∧ v 13 = 10 ∧ v 17 = 10 ∧ v 19 = 6 ∧ v 33 = 8
