/-! WillHouse$Reckoning: who lives in a stock -/
section X5L
variable {d bc bs : Nat} {Q : PQ} {h : PH} {r w f : Int}
end X5L
