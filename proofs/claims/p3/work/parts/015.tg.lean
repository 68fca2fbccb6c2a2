/-- the good words of the tables -/
def tg : List Cond := lw_tbl.filter goodWord
theorem tg_m {w : Cond} (k : Nat) (h : lw_tbl[k]? = some w) (hg : goodWord w = true) : w ∈ tg := List.mem_filter.mpr ⟨List.mem_of_getElem? h, hg⟩
theorem tg_good {L : List Cond} (h : ∀ w ∈ L, w ∈ tg) : GoodIn tg L := fun w hw => ⟨h w hw, good_of_word (List.mem_filter.mp (h w hw)).2⟩
