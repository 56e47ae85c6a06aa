section XLG
variable {K : xCx} {E : xEn} {own : String} {cc : ByteArray} {Lw : List (Nat × Nat)} {nL rf rc rs rl : Nat} {pc : Nat} {lv : List (Nat × Value)} {st : List Value} {S : xT} {g : xG} {cells slots : Nat}
end XLG