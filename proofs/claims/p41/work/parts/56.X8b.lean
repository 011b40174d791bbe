/-! WillHouse: what only tells -/
section X8B
variable {d bc bs : Nat} {Q : PQ} {h z : PH}
theorem nl_w {w : Int} (W : isO nN w 5) : nl_ (w + 1) = 8 ∧ nl_ (w + 14) = 12 := by
  rcases io_of_5 W with rfl | rfl <;> decide
end X8B
