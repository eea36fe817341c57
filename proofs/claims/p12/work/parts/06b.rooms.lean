-- the frames and the locals that a method and all below it want
def sx_fr (mi : Nat) : Nat := cond (Nat.blt mi 123) (cond (Nat.blt mi 61) (cond (Nat.blt mi 30) (cond (Nat.blt mi 15) (cond (Nat.blt mi 7) (cond (Nat.blt mi 3) (cond (Nat.blt mi 1) (2) (cond (Nat.blt mi 2) (1) (0))) (cond (Nat.blt mi 5) (0) (cond (Nat.blt mi 6) (0) (2)))) (cond (Nat.blt mi 11) (cond (Nat.blt mi 9) (0) (cond (Nat.blt mi 10) (1) (2))) (cond (Nat.blt mi 13) (cond (Nat.blt mi 12) (0) (2)) (0)))) (cond (Nat.blt mi 22) (cond (Nat.blt mi 18) (cond (Nat.blt mi 16) (4) (cond (Nat.blt mi 17) (0) (3))) (cond (Nat.blt mi 20) (cond (Nat.blt mi 19) (2) (1)) (cond (Nat.blt mi 21) (0) (2)))) (cond (Nat.blt mi 26) (0) (cond (Nat.blt mi 28) (cond (Nat.blt mi 27) (2) (0)) (2))))) (cond (Nat.blt mi 45) (cond (Nat.blt mi 37) (cond (Nat.blt mi 33) (cond (Nat.blt mi 31) (2) (cond (Nat.blt mi 32) (0) (3))) (cond (Nat.blt mi 35) (cond (Nat.blt mi 34) (1) (0)) (cond (Nat.blt mi 36) (1) (0)))) (cond (Nat.blt mi 41) (cond (Nat.blt mi 39) (cond (Nat.blt mi 38) (2) (1)) (cond (Nat.blt mi 40) (5) (0))) (cond (Nat.blt mi 43) (cond (Nat.blt mi 42) (4) (1)) (cond (Nat.blt mi 44) (0) (3))))) (cond (Nat.blt mi 53) (cond (Nat.blt mi 49) (cond (Nat.blt mi 47) (cond (Nat.blt mi 46) (2) (1)) (cond (Nat.blt mi 48) (0) (2))) (cond (Nat.blt mi 51) (cond (Nat.blt mi 50) (5) (1)) (cond (Nat.blt mi 52) (0) (5)))) (cond (Nat.blt mi 57) (cond (Nat.blt mi 55) (cond (Nat.blt mi 54) (5) (1)) (cond (Nat.blt mi 56) (5) (4))) (cond (Nat.blt mi 59) (cond (Nat.blt mi 58) (3) (6)) (cond (Nat.blt mi 60) (5) (1))))))) (cond (Nat.blt mi 92) (cond (Nat.blt mi 76) (cond (Nat.blt mi 68) (cond (Nat.blt mi 64) (cond (Nat.blt mi 62) (6) (cond (Nat.blt mi 63) (2) (0))) (cond (Nat.blt mi 66) (cond (Nat.blt mi 65) (0) (2)) (cond (Nat.blt mi 67) (0) (5)))) (cond (Nat.blt mi 72) (cond (Nat.blt mi 70) (cond (Nat.blt mi 69) (4) (2)) (cond (Nat.blt mi 71) (4) (6))) (cond (Nat.blt mi 74) (cond (Nat.blt mi 73) (5) (4)) (cond (Nat.blt mi 75) (6) (5))))) (cond (Nat.blt mi 84) (cond (Nat.blt mi 80) (cond (Nat.blt mi 78) (cond (Nat.blt mi 77) (3) (2)) (cond (Nat.blt mi 79) (0) (3))) (cond (Nat.blt mi 82) (cond (Nat.blt mi 81) (0) (3)) (2))) (cond (Nat.blt mi 88) (cond (Nat.blt mi 86) (cond (Nat.blt mi 85) (1) (0)) (2)) (cond (Nat.blt mi 90) (0) (cond (Nat.blt mi 91) (1) (0)))))) (cond (Nat.blt mi 107) (cond (Nat.blt mi 99) (cond (Nat.blt mi 95) (cond (Nat.blt mi 93) (8) (cond (Nat.blt mi 94) (7) (2))) (cond (Nat.blt mi 97) (cond (Nat.blt mi 96) (0) (1)) (cond (Nat.blt mi 98) (0) (6)))) (cond (Nat.blt mi 103) (cond (Nat.blt mi 101) (cond (Nat.blt mi 100) (4) (0)) (cond (Nat.blt mi 102) (3) (4))) (cond (Nat.blt mi 105) (0) (cond (Nat.blt mi 106) (4) (0))))) (cond (Nat.blt mi 115) (cond (Nat.blt mi 111) (cond (Nat.blt mi 109) (cond (Nat.blt mi 108) (5) (4)) (cond (Nat.blt mi 110) (3) (5))) (cond (Nat.blt mi 113) (cond (Nat.blt mi 112) (2) (1)) (0))) (cond (Nat.blt mi 119) (cond (Nat.blt mi 117) (cond (Nat.blt mi 116) (2) (0)) (cond (Nat.blt mi 118) (0) (2))) (cond (Nat.blt mi 121) (cond (Nat.blt mi 120) (0) (2)) (cond (Nat.blt mi 122) (5) (6)))))))) (cond (Nat.blt mi 185) (cond (Nat.blt mi 154) (cond (Nat.blt mi 138) (cond (Nat.blt mi 130) (cond (Nat.blt mi 126) (cond (Nat.blt mi 124) (5) (2)) (cond (Nat.blt mi 128) (cond (Nat.blt mi 127) (0) (2)) (cond (Nat.blt mi 129) (2) (0)))) (cond (Nat.blt mi 134) (cond (Nat.blt mi 132) (cond (Nat.blt mi 131) (2) (1)) (0)) (cond (Nat.blt mi 136) (cond (Nat.blt mi 135) (2) (3)) (cond (Nat.blt mi 137) (2) (1))))) (cond (Nat.blt mi 146) (cond (Nat.blt mi 142) (cond (Nat.blt mi 140) (0) (cond (Nat.blt mi 141) (4) (3))) (cond (Nat.blt mi 144) (cond (Nat.blt mi 143) (0) (2)) (cond (Nat.blt mi 145) (1) (0)))) (cond (Nat.blt mi 150) (cond (Nat.blt mi 148) (cond (Nat.blt mi 147) (0) (1)) (0)) (cond (Nat.blt mi 152) (cond (Nat.blt mi 151) (3) (1)) (cond (Nat.blt mi 153) (1) (2)))))) (cond (Nat.blt mi 169) (cond (Nat.blt mi 161) (cond (Nat.blt mi 157) (cond (Nat.blt mi 155) (1) (cond (Nat.blt mi 156) (2) (1))) (cond (Nat.blt mi 159) (2) (cond (Nat.blt mi 160) (2) (1)))) (cond (Nat.blt mi 165) (cond (Nat.blt mi 163) (cond (Nat.blt mi 162) (2) (1)) (cond (Nat.blt mi 164) (0) (5))) (cond (Nat.blt mi 167) (cond (Nat.blt mi 166) (0) (3)) (cond (Nat.blt mi 168) (2) (4))))) (cond (Nat.blt mi 177) (cond (Nat.blt mi 173) (cond (Nat.blt mi 171) (cond (Nat.blt mi 170) (3) (2)) (cond (Nat.blt mi 172) (2) (1))) (cond (Nat.blt mi 175) (cond (Nat.blt mi 174) (3) (5)) (cond (Nat.blt mi 176) (0) (4)))) (cond (Nat.blt mi 181) (cond (Nat.blt mi 179) (cond (Nat.blt mi 178) (4) (2)) (cond (Nat.blt mi 180) (4) (5))) (cond (Nat.blt mi 183) (cond (Nat.blt mi 182) (2) (4)) (cond (Nat.blt mi 184) (5) (2))))))) (cond (Nat.blt mi 216) (cond (Nat.blt mi 200) (cond (Nat.blt mi 192) (cond (Nat.blt mi 188) (cond (Nat.blt mi 186) (2) (cond (Nat.blt mi 187) (1) (7))) (cond (Nat.blt mi 190) (cond (Nat.blt mi 189) (6) (5)) (cond (Nat.blt mi 191) (4) (5)))) (cond (Nat.blt mi 196) (cond (Nat.blt mi 194) (cond (Nat.blt mi 193) (8) (7)) (cond (Nat.blt mi 195) (8) (6))) (cond (Nat.blt mi 198) (cond (Nat.blt mi 197) (3) (1)) (cond (Nat.blt mi 199) (2) (1))))) (cond (Nat.blt mi 208) (cond (Nat.blt mi 204) (cond (Nat.blt mi 202) (cond (Nat.blt mi 201) (0) (2)) (cond (Nat.blt mi 203) (3) (2))) (cond (Nat.blt mi 206) (1) (cond (Nat.blt mi 207) (0) (1)))) (cond (Nat.blt mi 212) (cond (Nat.blt mi 210) (cond (Nat.blt mi 209) (1) (0)) (cond (Nat.blt mi 211) (8) (7))) (cond (Nat.blt mi 214) (cond (Nat.blt mi 213) (0) (4)) (cond (Nat.blt mi 215) (3) (1)))))) (cond (Nat.blt mi 231) (cond (Nat.blt mi 223) (cond (Nat.blt mi 219) (cond (Nat.blt mi 217) (0) (cond (Nat.blt mi 218) (2) (1))) (cond (Nat.blt mi 221) (cond (Nat.blt mi 220) (5) (2)) (cond (Nat.blt mi 222) (1) (0)))) (cond (Nat.blt mi 227) (cond (Nat.blt mi 225) (0) (cond (Nat.blt mi 226) (2) (0))) (cond (Nat.blt mi 229) (cond (Nat.blt mi 228) (6) (5)) (cond (Nat.blt mi 230) (5) (2))))) (cond (Nat.blt mi 239) (cond (Nat.blt mi 235) (cond (Nat.blt mi 233) (cond (Nat.blt mi 232) (1) (2)) (cond (Nat.blt mi 234) (0) (2))) (cond (Nat.blt mi 237) (cond (Nat.blt mi 236) (2) (7)) (cond (Nat.blt mi 238) (0) (8)))) (cond (Nat.blt mi 243) (cond (Nat.blt mi 241) (cond (Nat.blt mi 240) (7) (1)) (cond (Nat.blt mi 242) (1) (0))) (cond (Nat.blt mi 245) (cond (Nat.blt mi 244) (1) (0)) (cond (Nat.blt mi 246) (1) (9))))))))
def sx_lo (mi : Nat) : Nat := cond (Nat.blt mi 123) (cond (Nat.blt mi 61) (cond (Nat.blt mi 30) (cond (Nat.blt mi 15) (cond (Nat.blt mi 7) (cond (Nat.blt mi 3) (cond (Nat.blt mi 1) (41) (cond (Nat.blt mi 2) (20) (0))) (cond (Nat.blt mi 5) (0) (cond (Nat.blt mi 6) (0) (44)))) (cond (Nat.blt mi 11) (cond (Nat.blt mi 9) (0) (cond (Nat.blt mi 10) (22) (44))) (cond (Nat.blt mi 13) (cond (Nat.blt mi 12) (0) (44)) (0)))) (cond (Nat.blt mi 22) (cond (Nat.blt mi 18) (cond (Nat.blt mi 16) (96) (cond (Nat.blt mi 17) (0) (73))) (cond (Nat.blt mi 20) (cond (Nat.blt mi 19) (46) (22)) (cond (Nat.blt mi 21) (0) (44)))) (cond (Nat.blt mi 26) (0) (cond (Nat.blt mi 28) (cond (Nat.blt mi 27) (44) (0)) (44))))) (cond (Nat.blt mi 45) (cond (Nat.blt mi 37) (cond (Nat.blt mi 33) (cond (Nat.blt mi 31) (44) (cond (Nat.blt mi 32) (0) (66))) (cond (Nat.blt mi 35) (cond (Nat.blt mi 34) (23) (0)) (cond (Nat.blt mi 36) (21) (0)))) (cond (Nat.blt mi 41) (cond (Nat.blt mi 39) (cond (Nat.blt mi 38) (44) (23)) (cond (Nat.blt mi 40) (110) (0))) (cond (Nat.blt mi 43) (cond (Nat.blt mi 42) (88) (21)) (cond (Nat.blt mi 44) (0) (66))))) (cond (Nat.blt mi 53) (cond (Nat.blt mi 49) (cond (Nat.blt mi 47) (cond (Nat.blt mi 46) (41) (20)) (cond (Nat.blt mi 48) (0) (44))) (cond (Nat.blt mi 51) (cond (Nat.blt mi 50) (110) (21)) (cond (Nat.blt mi 52) (0) (110)))) (cond (Nat.blt mi 57) (cond (Nat.blt mi 55) (cond (Nat.blt mi 54) (110) (21)) (cond (Nat.blt mi 56) (110) (88))) (cond (Nat.blt mi 59) (cond (Nat.blt mi 58) (66) (133)) (cond (Nat.blt mi 60) (110) (22))))))) (cond (Nat.blt mi 92) (cond (Nat.blt mi 76) (cond (Nat.blt mi 68) (cond (Nat.blt mi 64) (cond (Nat.blt mi 62) (133) (cond (Nat.blt mi 63) (44) (0))) (cond (Nat.blt mi 66) (cond (Nat.blt mi 65) (0) (44)) (cond (Nat.blt mi 67) (0) (122)))) (cond (Nat.blt mi 72) (cond (Nat.blt mi 70) (cond (Nat.blt mi 69) (96) (43)) (cond (Nat.blt mi 71) (96) (146))) (cond (Nat.blt mi 74) (cond (Nat.blt mi 73) (122) (96)) (cond (Nat.blt mi 75) (150) (122))))) (cond (Nat.blt mi 84) (cond (Nat.blt mi 80) (cond (Nat.blt mi 78) (cond (Nat.blt mi 77) (67) (41)) (cond (Nat.blt mi 79) (0) (67))) (cond (Nat.blt mi 82) (cond (Nat.blt mi 81) (0) (67)) (cond (Nat.blt mi 83) (44) (45)))) (cond (Nat.blt mi 88) (cond (Nat.blt mi 86) (cond (Nat.blt mi 85) (21) (0)) (cond (Nat.blt mi 87) (45) (44))) (cond (Nat.blt mi 90) (0) (cond (Nat.blt mi 91) (21) (0)))))) (cond (Nat.blt mi 107) (cond (Nat.blt mi 99) (cond (Nat.blt mi 95) (cond (Nat.blt mi 93) (190) (cond (Nat.blt mi 94) (167) (45))) (cond (Nat.blt mi 97) (cond (Nat.blt mi 96) (0) (21)) (cond (Nat.blt mi 98) (0) (144)))) (cond (Nat.blt mi 103) (cond (Nat.blt mi 101) (cond (Nat.blt mi 100) (97) (0)) (cond (Nat.blt mi 102) (75) (97))) (cond (Nat.blt mi 105) (0) (cond (Nat.blt mi 106) (97) (0))))) (cond (Nat.blt mi 115) (cond (Nat.blt mi 111) (cond (Nat.blt mi 109) (cond (Nat.blt mi 108) (120) (97)) (cond (Nat.blt mi 110) (66) (120))) (cond (Nat.blt mi 113) (cond (Nat.blt mi 112) (44) (22)) (0))) (cond (Nat.blt mi 119) (cond (Nat.blt mi 117) (cond (Nat.blt mi 116) (44) (0)) (cond (Nat.blt mi 118) (0) (44))) (cond (Nat.blt mi 121) (cond (Nat.blt mi 120) (0) (44)) (cond (Nat.blt mi 122) (122) (146)))))))) (cond (Nat.blt mi 185) (cond (Nat.blt mi 154) (cond (Nat.blt mi 138) (cond (Nat.blt mi 130) (cond (Nat.blt mi 126) (cond (Nat.blt mi 124) (122) (cond (Nat.blt mi 125) (43) (44))) (cond (Nat.blt mi 128) (cond (Nat.blt mi 127) (0) (44)) (cond (Nat.blt mi 129) (44) (0)))) (cond (Nat.blt mi 134) (cond (Nat.blt mi 132) (cond (Nat.blt mi 131) (42) (22)) (0)) (cond (Nat.blt mi 136) (cond (Nat.blt mi 135) (42) (66)) (cond (Nat.blt mi 137) (43) (22))))) (cond (Nat.blt mi 146) (cond (Nat.blt mi 142) (cond (Nat.blt mi 140) (0) (cond (Nat.blt mi 141) (93) (66))) (cond (Nat.blt mi 144) (cond (Nat.blt mi 143) (0) (44)) (cond (Nat.blt mi 145) (22) (0)))) (cond (Nat.blt mi 150) (cond (Nat.blt mi 148) (cond (Nat.blt mi 147) (0) (22)) (0)) (cond (Nat.blt mi 152) (cond (Nat.blt mi 151) (71) (22)) (cond (Nat.blt mi 153) (22) (46)))))) (cond (Nat.blt mi 169) (cond (Nat.blt mi 161) (cond (Nat.blt mi 157) (cond (Nat.blt mi 155) (22) (cond (Nat.blt mi 156) (43) (22))) (cond (Nat.blt mi 159) (46) (cond (Nat.blt mi 160) (43) (20)))) (cond (Nat.blt mi 165) (cond (Nat.blt mi 163) (cond (Nat.blt mi 162) (47) (20)) (cond (Nat.blt mi 164) (0) (114))) (cond (Nat.blt mi 167) (cond (Nat.blt mi 166) (0) (66)) (cond (Nat.blt mi 168) (43) (92))))) (cond (Nat.blt mi 177) (cond (Nat.blt mi 173) (cond (Nat.blt mi 171) (cond (Nat.blt mi 170) (71) (47)) (cond (Nat.blt mi 172) (46) (23))) (cond (Nat.blt mi 175) (cond (Nat.blt mi 174) (66) (114)) (cond (Nat.blt mi 176) (0) (92)))) (cond (Nat.blt mi 181) (cond (Nat.blt mi 179) (cond (Nat.blt mi 178) (92) (43)) (cond (Nat.blt mi 180) (93) (118))) (cond (Nat.blt mi 183) (cond (Nat.blt mi 182) (43) (93)) (cond (Nat.blt mi 184) (118) (42))))))) (cond (Nat.blt mi 216) (cond (Nat.blt mi 200) (cond (Nat.blt mi 192) (cond (Nat.blt mi 188) (cond (Nat.blt mi 186) (43) (cond (Nat.blt mi 187) (22) (160))) (cond (Nat.blt mi 190) (cond (Nat.blt mi 189) (139) (116)) (cond (Nat.blt mi 191) (93) (116)))) (cond (Nat.blt mi 196) (cond (Nat.blt mi 194) (cond (Nat.blt mi 193) (185) (160)) (cond (Nat.blt mi 195) (185) (139))) (cond (Nat.blt mi 198) (cond (Nat.blt mi 197) (70) (22)) (cond (Nat.blt mi 199) (46) (23))))) (cond (Nat.blt mi 208) (cond (Nat.blt mi 204) (cond (Nat.blt mi 202) (cond (Nat.blt mi 201) (0) (46)) (cond (Nat.blt mi 203) (70) (43))) (cond (Nat.blt mi 206) (cond (Nat.blt mi 205) (22) (24)) (cond (Nat.blt mi 207) (0) (24)))) (cond (Nat.blt mi 212) (cond (Nat.blt mi 210) (cond (Nat.blt mi 209) (22) (0)) (cond (Nat.blt mi 211) (185) (164))) (cond (Nat.blt mi 214) (cond (Nat.blt mi 213) (0) (98)) (cond (Nat.blt mi 215) (75) (21)))))) (cond (Nat.blt mi 231) (cond (Nat.blt mi 223) (cond (Nat.blt mi 219) (cond (Nat.blt mi 217) (0) (cond (Nat.blt mi 218) (42) (22))) (cond (Nat.blt mi 221) (cond (Nat.blt mi 220) (120) (42)) (cond (Nat.blt mi 222) (22) (0)))) (cond (Nat.blt mi 227) (cond (Nat.blt mi 225) (0) (cond (Nat.blt mi 226) (42) (0))) (cond (Nat.blt mi 229) (cond (Nat.blt mi 228) (141) (120)) (cond (Nat.blt mi 230) (120) (42))))) (cond (Nat.blt mi 239) (cond (Nat.blt mi 235) (cond (Nat.blt mi 233) (cond (Nat.blt mi 232) (22) (42)) (cond (Nat.blt mi 234) (0) (42))) (cond (Nat.blt mi 237) (cond (Nat.blt mi 236) (42) (160)) (cond (Nat.blt mi 238) (0) (183)))) (cond (Nat.blt mi 243) (cond (Nat.blt mi 241) (cond (Nat.blt mi 240) (160) (22)) (cond (Nat.blt mi 242) (22) (0))) (cond (Nat.blt mi 245) (cond (Nat.blt mi 244) (22) (0)) (cond (Nat.blt mi 246) (22) (211))))))))
noncomputable def sx_sv (mi : Nat) (i : Instr) : Bool := match i with
  | .invokevirtual k => (sx_lk (sx_sm (sx_own mi)) k).isSome
  | _ => false
noncomputable def sx_crok (mi m2 : Nat) : Bool := Nat.ble (sx_fr m2 + 1) (sx_fr mi) && Nat.ble (19 + sx_maxL m2 + sx_lo m2) (sx_lo mi)
noncomputable def sx_cro (mi : Nat) (q : Option (Nat × Nat)) : Bool := match q with
  | some q => sx_crok mi q.1
  | none => true
noncomputable def sx_crk (mi k : Nat) : Bool := sx_cro mi (sx_lk (sx_ml (sx_own mi)) k) && sx_cro mi (sx_lk (sx_mn (sx_own mi)) k)
noncomputable def sx_cri (mi : Nat) (i : Instr) : Bool := match i with
  | .invokestatic k => sx_crk mi k
  | .invokespecial k => sx_crk mi k
  | .invokevirtual k => sx_crk mi k && (cond (sx_sv mi (.invokevirtual k)) (Nat.ble 3 (sx_fr mi) && Nat.ble 75 (sx_lo mi)) true)
  | _ => true
noncomputable def sx_crp (mi : Nat) (x : Option (Instr × Nat)) : Bool := match x with
  | some p => sx_cri mi p.1
  | none => true
noncomputable def sx_crm (mi : Nat) : Bool := (List.range (sx_M mi).2.2.2.2.2.2.2.1).all (fun pc => sx_crp mi (sx_ins mi pc))
theorem sx_cr0 : (List.range 13).all (fun i => sx_crm (0 + i)) = true := by decide +kernel
theorem sx_cr1 : (List.range 13).all (fun i => sx_crm (13 + i)) = true := by decide +kernel
theorem sx_cr2 : (List.range 13).all (fun i => sx_crm (26 + i)) = true := by decide +kernel
theorem sx_cr3 : (List.range 13).all (fun i => sx_crm (39 + i)) = true := by decide +kernel
theorem sx_cr4 : (List.range 13).all (fun i => sx_crm (52 + i)) = true := by decide +kernel
theorem sx_cr5 : (List.range 13).all (fun i => sx_crm (65 + i)) = true := by decide +kernel
theorem sx_cr6 : (List.range 13).all (fun i => sx_crm (78 + i)) = true := by decide +kernel
theorem sx_cr7 : (List.range 13).all (fun i => sx_crm (91 + i)) = true := by decide +kernel
theorem sx_cr8 : (List.range 13).all (fun i => sx_crm (104 + i)) = true := by decide +kernel
theorem sx_cr9 : (List.range 13).all (fun i => sx_crm (117 + i)) = true := by decide +kernel
theorem sx_cr10 : (List.range 13).all (fun i => sx_crm (130 + i)) = true := by decide +kernel
theorem sx_cr11 : (List.range 13).all (fun i => sx_crm (143 + i)) = true := by decide +kernel
theorem sx_cr12 : (List.range 13).all (fun i => sx_crm (156 + i)) = true := by decide +kernel
theorem sx_cr13 : (List.range 13).all (fun i => sx_crm (169 + i)) = true := by decide +kernel
theorem sx_cr14 : (List.range 13).all (fun i => sx_crm (182 + i)) = true := by decide +kernel
theorem sx_cr15 : (List.range 13).all (fun i => sx_crm (195 + i)) = true := by decide +kernel
theorem sx_cr16 : (List.range 13).all (fun i => sx_crm (208 + i)) = true := by decide +kernel
theorem sx_cr17 : (List.range 13).all (fun i => sx_crm (221 + i)) = true := by decide +kernel
theorem sx_cr18 : (List.range 13).all (fun i => sx_crm (234 + i)) = true := by decide +kernel
theorem sx_crA {mi : Nat} (h : mi < 247) : sx_crm mi = true := by
  have key : ∀ k, k < 19 → (List.range 13).all (fun i => sx_crm (13 * k + i)) = true := by
    intro k hk
    match k, hk with
    | 0, _ => exact sx_cr0
    | 1, _ => exact sx_cr1
    | 2, _ => exact sx_cr2
    | 3, _ => exact sx_cr3
    | 4, _ => exact sx_cr4
    | 5, _ => exact sx_cr5
    | 6, _ => exact sx_cr6
    | 7, _ => exact sx_cr7
    | 8, _ => exact sx_cr8
    | 9, _ => exact sx_cr9
    | 10, _ => exact sx_cr10
    | 11, _ => exact sx_cr11
    | 12, _ => exact sx_cr12
    | 13, _ => exact sx_cr13
    | 14, _ => exact sx_cr14
    | 15, _ => exact sx_cr15
    | 16, _ => exact sx_cr16
    | 17, _ => exact sx_cr17
    | 18, _ => exact sx_cr18
    | k + 19, hk => omega
  have h2 := sx_all (key (mi / 13) (by omega)) (o := mi % 13) (by omega)
  rwa [show 13 * (mi / 13) + mi % 13 = mi by omega] at h2
theorem sx_crI {mi pc n : Nat} {i : Instr} (h : mi < 247) (hi : sx_ins mi pc = some (i, n)) : sx_cri mi i = true := by
  have hp : pc < (sx_M mi).2.2.2.2.2.2.2.1 := by
    unfold sx_ins at hi
    cases hb : Nat.blt pc (sx_M mi).2.2.2.2.2.2.2.1 with
    | false => rw [hb] at hi; cases hi
    | true => exact Nat.le_of_ble_eq_true hb
  have h1 := sx_crA h
  unfold sx_crm at h1
  have h2 := sx_all h1 hp
  rw [hi] at h2
  exact h2
def sx_crS (mi m2 : Nat) : Prop := sx_fr m2 + 1 ≤ sx_fr mi ∧ 19 + sx_maxL m2 + sx_lo m2 ≤ sx_lo mi
theorem sx_crok_s {mi m2 : Nat} (h : sx_crok mi m2 = true) : sx_crS mi m2 := by
  unfold sx_crok at h
  rw [Bool.and_eq_true] at h
  exact ⟨Nat.le_of_ble_eq_true h.1, Nat.le_of_ble_eq_true h.2⟩
theorem sx_crk_l {mi k : Nat} {q : Nat × Nat} (h : sx_crk mi k = true) (hq : sx_lk (sx_ml (sx_own mi)) k = some q) : sx_crS mi q.1 := by
  unfold sx_crk at h
  rw [Bool.and_eq_true, hq] at h
  exact sx_crok_s h.1
theorem sx_crk_n {mi k : Nat} {q : Nat × Nat} (h : sx_crk mi k = true) (hq : sx_lk (sx_mn (sx_own mi)) k = some q) : sx_crS mi q.1 := by
  unfold sx_crk at h
  rw [Bool.and_eq_true, hq] at h
  exact sx_crok_s h.2
theorem sx_cri_s {mi k : Nat} (h : sx_cri mi (.invokestatic k) = true) : sx_crk mi k = true := h
theorem sx_cri_i {mi k : Nat} (h : sx_cri mi (.invokespecial k) = true) : sx_crk mi k = true := h
theorem sx_cri_v {mi k : Nat} (h : sx_cri mi (.invokevirtual k) = true) : sx_crk mi k = true := by
  have h2 : (sx_crk mi k && (cond (sx_sv mi (.invokevirtual k)) (Nat.ble 3 (sx_fr mi) && Nat.ble 75 (sx_lo mi)) true)) = true := h
  rw [Bool.and_eq_true] at h2
  exact h2.1
theorem sx_cri_str {mi : Nat} {i : Instr} (h : sx_cri mi i = true) (hs : sx_sv mi i = true) : 3 ≤ sx_fr mi ∧ 75 ≤ sx_lo mi := by
  match i, h, hs with
  | .invokevirtual k, h, hs =>
    have h2 : (sx_crk mi k && (cond (sx_sv mi (.invokevirtual k)) (Nat.ble 3 (sx_fr mi) && Nat.ble 75 (sx_lo mi)) true)) = true := h
    rw [hs, cond_true, Bool.and_eq_true, Bool.and_eq_true] at h2
    exact ⟨Nat.le_of_ble_eq_true h2.2.1, Nat.le_of_ble_eq_true h2.2.2⟩
