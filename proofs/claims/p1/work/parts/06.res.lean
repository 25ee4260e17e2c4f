def res_end (n : Int32) : Int32 := if n.toInt = 0 then n else -1
def res_fault (n : Int32) : Int32 := if n.toInt = 0 then 0 else -1
def res_later (n : Int32) : Int32 := if 0 ≤ n.toInt ∧ n.toInt ≤ 1000 then n else -1
def res_byTurn (n : Int32) : Int32 := if n.toInt = 0 then 0 else -1
def res_list (n k : Int32) : Int32 := if n.toInt = 0 ∧ (k.toInt = 0 ∨ k.toInt = 1) then 0 else -1
def res_rounds (n k : Int32) : Int32 := if n.toInt = 0 ∧ k.toInt = 0 then 0 else -1
def res_image (n : Int32) : Int32 := if 0 ≤ n.toInt ∧ n.toInt ≤ 2 then 0 else -1
def res_about (n : Int32) : Int32 := if 0 ≤ n.toInt ∧ n.toInt ≤ 10 then 0 else -1
