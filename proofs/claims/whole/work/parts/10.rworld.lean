-- THE REFERENCE'S WORLD: 21 cells at a 0 .. a 20
def mdF (a : Nat → Nat) (u : St) : List Value := [.int (u 0 0), .ref (a 1), .ref (a 2), .ref (a 3), .ref (a 4), .ref (a 5), .ref (a 6), .ref (a 7), .ref (a 8), .ref (a 9), .ref (a 10), .ref (a 11), .ref (a 12), .ref (a 13), .ref (a 14), .ref (a 15), .ref (a 16), .ref (a 17), .ref (a 18), .int (u 0 19), .int (u 0 20), .int (u 0 21), .int (u 0 22), .int (u 0 23), .ref (a 19), .ref (a 20), .int (u 0 26)]
def rW (z : Nat → ClassId) (a : Nat → Nat) (u : St) : va_W := [(a 0, .inr (4, mdF a u)), (a 1, .inl (z 0, 56, .inl (u 1))), (a 2, .inl (z 0, 8, .inl (u 2))), (a 3, .inl (z 1, 8, .inl (u 3))), (a 4, .inl (z 1, 8, .inl (u 4))), (a 5, .inl (z 1, 8, .inl (u 5))), (a 6, .inl (z 0, 8, .inl (u 6))), (a 7, .inl (z 0, 8, .inl (u 7))), (a 8, .inl (z 0, 8, .inl (u 8))), (a 9, .inl (z 0, 8, .inl (u 9))), (a 10, .inl (z 1, 4, .inl (u 10))), (a 11, .inl (z 0, 2, .inl (u 11))), (a 12, .inl (z 0, 2, .inl (u 12))), (a 13, .inl (z 0, 2, .inl (u 13))), (a 14, .inl (z 0, 2, .inl (u 14))), (a 15, .inl (z 0, 2, .inl (u 15))), (a 16, .inl (z 0, 2, .inl (u 16))), (a 17, .inl (z 0, 2, .inl (u 17))), (a 18, .inl (z 0, 2, .inl (u 18))), (a 19, .inl (z 0, 8, .inl (u 24))), (a 20, .inl (z 0, 8, .inl (u 25)))]
section RW
variable {z : Nat → ClassId} {a : Nat → Nat} {u : St}
theorem pl_md : (rW z a u)[0]? = some (a 0, .inr (4, mdF a u)) := rfl
theorem pl_a_times : (rW z a u)[1]? = some (a 1, .inl (z 0, 56, .inl (u 1))) := rfl
theorem pu_a_times {j : Nat} {v : Int32} : (rW z a u).set 1 (a 1, .inl (z 0, 56, .inl (upd (u 1) j v))) = rW z a (up2 u 1 j v) := rfl
theorem pl_a_modes : (rW z a u)[2]? = some (a 2, .inl (z 0, 8, .inl (u 2))) := rfl
theorem pu_a_modes {j : Nat} {v : Int32} : (rW z a u).set 2 (a 2, .inl (z 0, 8, .inl (upd (u 2) j v))) = rW z a (up2 u 2 j v) := rfl
theorem pl_a_cars : (rW z a u)[3]? = some (a 3, .inl (z 1, 8, .inl (u 3))) := rfl
theorem pu_a_cars {j : Nat} {v : Int32} : (rW z a u).set 3 (a 3, .inl (z 1, 8, .inl (upd (u 3) j v))) = rW z a (up2 u 3 j v) := rfl
theorem pl_a_pushes : (rW z a u)[4]? = some (a 4, .inl (z 1, 8, .inl (u 4))) := rfl
theorem pu_a_pushes {j : Nat} {v : Int32} : (rW z a u).set 4 (a 4, .inl (z 1, 8, .inl (upd (u 4) j v))) = rW z a (up2 u 4 j v) := rfl
theorem pl_a_remembered : (rW z a u)[5]? = some (a 5, .inl (z 1, 8, .inl (u 5))) := rfl
theorem pu_a_remembered {j : Nat} {v : Int32} : (rW z a u).set 5 (a 5, .inl (z 1, 8, .inl (upd (u 5) j v))) = rW z a (up2 u 5 j v) := rfl
theorem pl_a_waited : (rW z a u)[6]? = some (a 6, .inl (z 0, 8, .inl (u 6))) := rfl
theorem pu_a_waited {j : Nat} {v : Int32} : (rW z a u).set 6 (a 6, .inl (z 0, 8, .inl (upd (u 6) j v))) = rW z a (up2 u 6 j v) := rfl
theorem pl_a_longest : (rW z a u)[7]? = some (a 7, .inl (z 0, 8, .inl (u 7))) := rfl
theorem pu_a_longest {j : Nat} {v : Int32} : (rW z a u).set 7 (a 7, .inl (z 0, 8, .inl (upd (u 7) j v))) = rW z a (up2 u 7 j v) := rfl
theorem pl_a_greens : (rW z a u)[8]? = some (a 8, .inl (z 0, 8, .inl (u 8))) := rfl
theorem pu_a_greens {j : Nat} {v : Int32} : (rW z a u).set 8 (a 8, .inl (z 0, 8, .inl (upd (u 8) j v))) = rW z a (up2 u 8 j v) := rfl
theorem pl_a_stuck : (rW z a u)[9]? = some (a 9, .inl (z 0, 8, .inl (u 9))) := rfl
theorem pu_a_stuck {j : Nat} {v : Int32} : (rW z a u).set 9 (a 9, .inl (z 0, 8, .inl (upd (u 9) j v))) = rW z a (up2 u 9 j v) := rfl
theorem pl_a_exchanged : (rW z a u)[10]? = some (a 10, .inl (z 1, 4, .inl (u 10))) := rfl
theorem pu_a_exchanged {j : Nat} {v : Int32} : (rW z a u).set 10 (a 10, .inl (z 1, 4, .inl (upd (u 10) j v))) = rW z a (up2 u 10 j v) := rfl
theorem pl_a_now : (rW z a u)[11]? = some (a 11, .inl (z 0, 2, .inl (u 11))) := rfl
theorem pu_a_now {j : Nat} {v : Int32} : (rW z a u).set 11 (a 11, .inl (z 0, 2, .inl (upd (u 11) j v))) = rW z a (up2 u 11 j v) := rfl
theorem pl_a_next : (rW z a u)[12]? = some (a 12, .inl (z 0, 2, .inl (u 12))) := rfl
theorem pu_a_next {j : Nat} {v : Int32} : (rW z a u).set 12 (a 12, .inl (z 0, 2, .inl (upd (u 12) j v))) = rW z a (up2 u 12 j v) := rfl
theorem pl_a_phase : (rW z a u)[13]? = some (a 13, .inl (z 0, 2, .inl (u 13))) := rfl
theorem pu_a_phase {j : Nat} {v : Int32} : (rW z a u).set 13 (a 13, .inl (z 0, 2, .inl (upd (u 13) j v))) = rW z a (up2 u 13 j v) := rfl
theorem pl_a_age : (rW z a u)[14]? = some (a 14, .inl (z 0, 2, .inl (u 14))) := rfl
theorem pu_a_age {j : Nat} {v : Int32} : (rW z a u).set 14 (a 14, .inl (z 0, 2, .inl (upd (u 14) j v))) = rW z a (up2 u 14 j v) := rfl
theorem pl_a_left : (rW z a u)[15]? = some (a 15, .inl (z 0, 2, .inl (u 15))) := rfl
theorem pu_a_left {j : Nat} {v : Int32} : (rW z a u).set 15 (a 15, .inl (z 0, 2, .inl (upd (u 15) j v))) = rW z a (up2 u 15 j v) := rfl
theorem pl_a_pressure : (rW z a u)[16]? = some (a 16, .inl (z 0, 2, .inl (u 16))) := rfl
theorem pu_a_pressure {j : Nat} {v : Int32} : (rW z a u).set 16 (a 16, .inl (z 0, 2, .inl (upd (u 16) j v))) = rW z a (up2 u 16 j v) := rfl
theorem pl_a_walking : (rW z a u)[17]? = some (a 17, .inl (z 0, 2, .inl (u 17))) := rfl
theorem pu_a_walking {j : Nat} {v : Int32} : (rW z a u).set 17 (a 17, .inl (z 0, 2, .inl (upd (u 17) j v))) = rW z a (up2 u 17 j v) := rfl
theorem pl_a_clearing : (rW z a u)[18]? = some (a 18, .inl (z 0, 2, .inl (u 18))) := rfl
theorem pu_a_clearing {j : Nat} {v : Int32} : (rW z a u).set 18 (a 18, .inl (z 0, 2, .inl (upd (u 18) j v))) = rW z a (up2 u 18 j v) := rfl
theorem pl_a_seen : (rW z a u)[19]? = some (a 19, .inl (z 0, 8, .inl (u 24))) := rfl
theorem pu_a_seen {j : Nat} {v : Int32} : (rW z a u).set 19 (a 19, .inl (z 0, 8, .inl (upd (u 24) j v))) = rW z a (up2 u 24 j v) := rfl
theorem pl_a_yellows : (rW z a u)[20]? = some (a 20, .inl (z 0, 8, .inl (u 25))) := rfl
theorem pu_a_yellows {j : Nat} {v : Int32} : (rW z a u).set 20 (a 20, .inl (z 0, 8, .inl (upd (u 25) j v))) = rW z a (up2 u 25 j v) := rfl
theorem pu_md_thrown {v : Int32} : (rW z a u).set 0 (a 0, .inr (4, (mdF a u).set 0 (.int v))) = rW z a (up2 u 0 0 v) := rfl
theorem pu_md_time {v : Int32} : (rW z a u).set 0 (a 0, .inr (4, (mdF a u).set 19 (.int v))) = rW z a (up2 u 0 19 v) := rfl
theorem pu_md_side {v : Int32} : (rW z a u).set 0 (a 0, .inr (4, (mdF a u).set 20 (.int v))) = rW z a (up2 u 0 20 v) := rfl
theorem pu_md_crossing {v : Int32} : (rW z a u).set 0 (a 0, .inr (4, (mdF a u).set 21 (.int v))) = rW z a (up2 u 0 21 v) := rfl
theorem pu_md_crossings {v : Int32} : (rW z a u).set 0 (a 0, .inr (4, (mdF a u).set 22 (.int v))) = rW z a (up2 u 0 22 v) := rfl
theorem pu_md_wrong {v : Int32} : (rW z a u).set 0 (a 0, .inr (4, (mdF a u).set 23 (.int v))) = rW z a (up2 u 0 23 v) := rfl
theorem pu_md_clashed {v : Int32} : (rW z a u).set 0 (a 0, .inr (4, (mdF a u).set 26 (.int v))) = rW z a (up2 u 0 26 v) := rfl
end RW
