/-! JUMPS, by program -/
section JMP
variable {L : ab_L} {S : List Value} {h : ab_H} {Q : Option Value → ab_H → Prop} {x z : Int32}
end JMP
