theorem vm_rd (j a n : Nat) (h1 : j < n) (h2 : a ≤ j) : j ∈ (List.range n).drop a := by
  rw [List.mem_iff_getElem?]
  exact ⟨j - a, by rw [List.getElem?_drop, show a + (j - a) = j by omega, List.getElem?_range h1]⟩
/-- what the words say of a method that is called: 1 static, 2 a constructor, 3 by its receiver -/
def vm_mchk (k : Nat) : Bool := (vm_mp k).1 == 0 || (vm_has (vm_mp k).2.2.1 (.initialized (vm_name k).cls) && decide (plainName (vm_name k).cls = true) && decide ((vm_name k).cls ≠ "java/lang/invoke/MethodHandle") && decide ((vm_name k).cls ≠ "java/lang/invoke/VarHandle") && decide ((parseMethodDescriptor (vm_name k).desc).map (fun d => d.parameters.length) = some (vm_na k)) && (match (vm_mp k).1 with
  | 1 => vm_has (vm_mp k).2.2.2.1 (.static (vm_name k))
  | 2 => vm_has (vm_mp k).2.2.2.1 (.instanceMethod (vm_name k)) && decide ((vm_name k).name = "<init>") && decide (vm_ret k = none)
  | _ => vm_has (vm_mp k).2.2.2.1 (.instanceMethod (vm_name k)) && vm_has (vm_mp k).2.2.2.2 (.selects (vm_name k).cls (vm_name k) (vm_name k)) && decide ((vm_cls[vm_ci k]?).map (fun q => q.1) = some (vm_name k).cls)))

set_option maxRecDepth 100000 in
theorem vm_mchk_ok0 : ((List.range 8).drop 0).all vm_mchk = true := by decide +kernel
set_option maxRecDepth 100000 in
theorem vm_mchk_ok8 : ((List.range 16).drop 8).all vm_mchk = true := by decide +kernel
set_option maxRecDepth 100000 in
theorem vm_mchk_ok16 : ((List.range 24).drop 16).all vm_mchk = true := by decide +kernel
set_option maxRecDepth 100000 in
theorem vm_mchk_ok24 : ((List.range 32).drop 24).all vm_mchk = true := by decide +kernel
set_option maxRecDepth 100000 in
theorem vm_mchk_ok32 : ((List.range 40).drop 32).all vm_mchk = true := by decide +kernel
set_option maxRecDepth 100000 in
theorem vm_mchk_ok40 : ((List.range 48).drop 40).all vm_mchk = true := by decide +kernel
set_option maxRecDepth 100000 in
theorem vm_mchk_ok48 : ((List.range 56).drop 48).all vm_mchk = true := by decide +kernel
set_option maxRecDepth 100000 in
theorem vm_mchk_ok56 : ((List.range 64).drop 56).all vm_mchk = true := by decide +kernel
set_option maxRecDepth 100000 in
theorem vm_mchk_ok64 : ((List.range 72).drop 64).all vm_mchk = true := by decide +kernel
set_option maxRecDepth 100000 in
theorem vm_mchk_ok72 : ((List.range 80).drop 72).all vm_mchk = true := by decide +kernel
set_option maxRecDepth 100000 in
theorem vm_mchk_ok80 : ((List.range 88).drop 80).all vm_mchk = true := by decide +kernel
set_option maxRecDepth 100000 in
theorem vm_mchk_ok88 : ((List.range 96).drop 88).all vm_mchk = true := by decide +kernel
set_option maxRecDepth 100000 in
theorem vm_mchk_ok96 : ((List.range 104).drop 96).all vm_mchk = true := by decide +kernel
set_option maxRecDepth 100000 in
theorem vm_mchk_ok104 : ((List.range 112).drop 104).all vm_mchk = true := by decide +kernel
set_option maxRecDepth 100000 in
theorem vm_mchk_ok112 : ((List.range 120).drop 112).all vm_mchk = true := by decide +kernel
set_option maxRecDepth 100000 in
theorem vm_mchk_ok120 : ((List.range 125).drop 120).all vm_mchk = true := by decide +kernel
set_option maxRecDepth 100000 in
theorem vm_cd1 : lw_tbl[78]? = some (Cond.code (vm_name 1) (vm_code 1) (vm_max 1) (vm_ret 1)) := rfl
set_option maxRecDepth 100000 in
theorem vm_cd2 : lw_tbl[276]? = some (Cond.code (vm_name 2) (vm_code 2) (vm_max 2) (vm_ret 2)) := rfl
set_option maxRecDepth 100000 in
theorem vm_cd3 : lw_tbl[257]? = some (Cond.code (vm_name 3) (vm_code 3) (vm_max 3) (vm_ret 3)) := rfl
set_option maxRecDepth 100000 in
theorem vm_cd4 : lw_tbl[498]? = some (Cond.code (vm_name 4) (vm_code 4) (vm_max 4) (vm_ret 4)) := rfl
set_option maxRecDepth 100000 in
theorem vm_cd5 : lw_tbl[280]? = some (Cond.code (vm_name 5) (vm_code 5) (vm_max 5) (vm_ret 5)) := rfl
set_option maxRecDepth 100000 in
theorem vm_cd6 : lw_tbl[299]? = some (Cond.code (vm_name 6) (vm_code 6) (vm_max 6) (vm_ret 6)) := rfl
set_option maxRecDepth 100000 in
theorem vm_cd7 : lw_tbl[327]? = some (Cond.code (vm_name 7) (vm_code 7) (vm_max 7) (vm_ret 7)) := rfl
set_option maxRecDepth 100000 in
theorem vm_cd8 : lw_tbl[307]? = some (Cond.code (vm_name 8) (vm_code 8) (vm_max 8) (vm_ret 8)) := rfl
set_option maxRecDepth 100000 in
theorem vm_cd9 : lw_tbl[292]? = some (Cond.code (vm_name 9) (vm_code 9) (vm_max 9) (vm_ret 9)) := rfl
set_option maxRecDepth 100000 in
theorem vm_cd10 : lw_tbl[288]? = some (Cond.code (vm_name 10) (vm_code 10) (vm_max 10) (vm_ret 10)) := rfl
set_option maxRecDepth 100000 in
theorem vm_cd11 : lw_tbl[303]? = some (Cond.code (vm_name 11) (vm_code 11) (vm_max 11) (vm_ret 11)) := rfl
set_option maxRecDepth 100000 in
theorem vm_cd12 : lw_tbl[392]? = some (Cond.code (vm_name 12) (vm_code 12) (vm_max 12) (vm_ret 12)) := rfl
set_option maxRecDepth 100000 in
theorem vm_cd13 : lw_tbl[540]? = some (Cond.code (vm_name 13) (vm_code 13) (vm_max 13) (vm_ret 13)) := rfl
set_option maxRecDepth 100000 in
theorem vm_cd14 : lw_tbl[552]? = some (Cond.code (vm_name 14) (vm_code 14) (vm_max 14) (vm_ret 14)) := rfl
set_option maxRecDepth 100000 in
theorem vm_cd15 : lw_tbl[544]? = some (Cond.code (vm_name 15) (vm_code 15) (vm_max 15) (vm_ret 15)) := rfl
set_option maxRecDepth 100000 in
theorem vm_cd16 : lw_tbl[103]? = some (Cond.code (vm_name 16) (vm_code 16) (vm_max 16) (vm_ret 16)) := rfl
set_option maxRecDepth 100000 in
theorem vm_cd17 : lw_tbl[265]? = some (Cond.code (vm_name 17) (vm_code 17) (vm_max 17) (vm_ret 17)) := rfl
set_option maxRecDepth 100000 in
theorem vm_cd18 : lw_tbl[523]? = some (Cond.code (vm_name 18) (vm_code 18) (vm_max 18) (vm_ret 18)) := rfl
set_option maxRecDepth 100000 in
theorem vm_cd19 : lw_tbl[378]? = some (Cond.code (vm_name 19) (vm_code 19) (vm_max 19) (vm_ret 19)) := rfl
set_option maxRecDepth 100000 in
theorem vm_cd20 : lw_tbl[519]? = some (Cond.code (vm_name 20) (vm_code 20) (vm_max 20) (vm_ret 20)) := rfl
set_option maxRecDepth 100000 in
theorem vm_cd21 : lw_tbl[480]? = some (Cond.code (vm_name 21) (vm_code 21) (vm_max 21) (vm_ret 21)) := rfl
set_option maxRecDepth 100000 in
theorem vm_cd22 : lw_tbl[396]? = some (Cond.code (vm_name 22) (vm_code 22) (vm_max 22) (vm_ret 22)) := rfl
set_option maxRecDepth 100000 in
theorem vm_cd23 : lw_tbl[332]? = some (Cond.code (vm_name 23) (vm_code 23) (vm_max 23) (vm_ret 23)) := rfl
set_option maxRecDepth 100000 in
theorem vm_cd24 : lw_tbl[343]? = some (Cond.code (vm_name 24) (vm_code 24) (vm_max 24) (vm_ret 24)) := rfl
set_option maxRecDepth 100000 in
theorem vm_cd25 : lw_tbl[350]? = some (Cond.code (vm_name 25) (vm_code 25) (vm_max 25) (vm_ret 25)) := rfl
set_option maxRecDepth 100000 in
theorem vm_cd26 : lw_tbl[382]? = some (Cond.code (vm_name 26) (vm_code 26) (vm_max 26) (vm_ret 26)) := rfl
set_option maxRecDepth 100000 in
theorem vm_cd27 : lw_tbl[311]? = some (Cond.code (vm_name 27) (vm_code 27) (vm_max 27) (vm_ret 27)) := rfl
set_option maxRecDepth 100000 in
theorem vm_cd28 : lw_tbl[131]? = some (Cond.code (vm_name 28) (vm_code 28) (vm_max 28) (vm_ret 28)) := rfl
set_option maxRecDepth 100000 in
theorem vm_cd29 : lw_tbl[374]? = some (Cond.code (vm_name 29) (vm_code 29) (vm_max 29) (vm_ret 29)) := rfl
set_option maxRecDepth 100000 in
theorem vm_cd30 : lw_tbl[427]? = some (Cond.code (vm_name 30) (vm_code 30) (vm_max 30) (vm_ret 30)) := rfl
set_option maxRecDepth 100000 in
theorem vm_cd31 : lw_tbl[177]? = some (Cond.code (vm_name 31) (vm_code 31) (vm_max 31) (vm_ret 31)) := rfl
set_option maxRecDepth 100000 in
theorem vm_cd32 : lw_tbl[450]? = some (Cond.code (vm_name 32) (vm_code 32) (vm_max 32) (vm_ret 32)) := rfl
set_option maxRecDepth 100000 in
theorem vm_cd33 : lw_tbl[456]? = some (Cond.code (vm_name 33) (vm_code 33) (vm_max 33) (vm_ret 33)) := rfl
set_option maxRecDepth 100000 in
theorem vm_cd34 : lw_tbl[461]? = some (Cond.code (vm_name 34) (vm_code 34) (vm_max 34) (vm_ret 34)) := rfl
set_option maxRecDepth 100000 in
theorem vm_cd35 : lw_tbl[465]? = some (Cond.code (vm_name 35) (vm_code 35) (vm_max 35) (vm_ret 35)) := rfl
set_option maxRecDepth 100000 in
theorem vm_cd36 : lw_tbl[471]? = some (Cond.code (vm_name 36) (vm_code 36) (vm_max 36) (vm_ret 36)) := rfl
set_option maxRecDepth 100000 in
theorem vm_cd37 : lw_tbl[161]? = some (Cond.code (vm_name 37) (vm_code 37) (vm_max 37) (vm_ret 37)) := rfl
set_option maxRecDepth 100000 in
theorem vm_cd38 : lw_tbl[414]? = some (Cond.code (vm_name 38) (vm_code 38) (vm_max 38) (vm_ret 38)) := rfl
set_option maxRecDepth 100000 in
theorem vm_cd39 : lw_tbl[418]? = some (Cond.code (vm_name 39) (vm_code 39) (vm_max 39) (vm_ret 39)) := rfl
set_option maxRecDepth 100000 in
theorem vm_cd40 : lw_tbl[422]? = some (Cond.code (vm_name 40) (vm_code 40) (vm_max 40) (vm_ret 40)) := rfl
set_option maxRecDepth 100000 in
theorem vm_cd41 : lw_tbl[431]? = some (Cond.code (vm_name 41) (vm_code 41) (vm_max 41) (vm_ret 41)) := rfl
set_option maxRecDepth 100000 in
theorem vm_cd42 : lw_tbl[446]? = some (Cond.code (vm_name 42) (vm_code 42) (vm_max 42) (vm_ret 42)) := rfl
set_option maxRecDepth 100000 in
theorem vm_cd43 : lw_tbl[70]? = some (Cond.code (vm_name 43) (vm_code 43) (vm_max 43) (vm_ret 43)) := rfl
set_option maxRecDepth 100000 in
theorem vm_cd44 : lw_tbl[253]? = some (Cond.code (vm_name 44) (vm_code 44) (vm_max 44) (vm_ret 44)) := rfl
set_option maxRecDepth 100000 in
theorem vm_cd45 : lw_tbl[272]? = some (Cond.code (vm_name 45) (vm_code 45) (vm_max 45) (vm_ret 45)) := rfl
set_option maxRecDepth 100000 in
theorem vm_cd46 : lw_tbl[315]? = some (Cond.code (vm_name 46) (vm_code 46) (vm_max 46) (vm_ret 46)) := rfl
set_option maxRecDepth 100000 in
theorem vm_cd47 : lw_tbl[319]? = some (Cond.code (vm_name 47) (vm_code 47) (vm_max 47) (vm_ret 47)) := rfl
set_option maxRecDepth 100000 in
theorem vm_cd48 : lw_tbl[354]? = some (Cond.code (vm_name 48) (vm_code 48) (vm_max 48) (vm_ret 48)) := rfl
set_option maxRecDepth 100000 in
theorem vm_cd49 : lw_tbl[358]? = some (Cond.code (vm_name 49) (vm_code 49) (vm_max 49) (vm_ret 49)) := rfl
set_option maxRecDepth 100000 in
theorem vm_cd50 : lw_tbl[485]? = some (Cond.code (vm_name 50) (vm_code 50) (vm_max 50) (vm_ret 50)) := rfl
set_option maxRecDepth 100000 in
theorem vm_cd51 : lw_tbl[490]? = some (Cond.code (vm_name 51) (vm_code 51) (vm_max 51) (vm_ret 51)) := rfl
set_option maxRecDepth 100000 in
theorem vm_cd52 : lw_tbl[503]? = some (Cond.code (vm_name 52) (vm_code 52) (vm_max 52) (vm_ret 52)) := rfl
set_option maxRecDepth 100000 in
theorem vm_cd53 : lw_tbl[511]? = some (Cond.code (vm_name 53) (vm_code 53) (vm_max 53) (vm_ret 53)) := rfl
set_option maxRecDepth 100000 in
theorem vm_cd54 : lw_tbl[527]? = some (Cond.code (vm_name 54) (vm_code 54) (vm_max 54) (vm_ret 54)) := rfl
set_option maxRecDepth 100000 in
theorem vm_cd55 : lw_tbl[532]? = some (Cond.code (vm_name 55) (vm_code 55) (vm_max 55) (vm_ret 55)) := rfl
set_option maxRecDepth 100000 in
theorem vm_cd56 : lw_tbl[536]? = some (Cond.code (vm_name 56) (vm_code 56) (vm_max 56) (vm_ret 56)) := rfl
set_option maxRecDepth 100000 in
theorem vm_cd57 : lw_tbl[548]? = some (Cond.code (vm_name 57) (vm_code 57) (vm_max 57) (vm_ret 57)) := rfl
set_option maxRecDepth 100000 in
theorem vm_cd58 : lw_tbl[561]? = some (Cond.code (vm_name 58) (vm_code 58) (vm_max 58) (vm_ret 58)) := rfl
set_option maxRecDepth 100000 in
theorem vm_cd59 : lw_tbl[323]? = some (Cond.code (vm_name 59) (vm_code 59) (vm_max 59) (vm_ret 59)) := rfl
set_option maxRecDepth 100000 in
theorem vm_cd60 : lw_tbl[494]? = some (Cond.code (vm_name 60) (vm_code 60) (vm_max 60) (vm_ret 60)) := rfl
set_option maxRecDepth 100000 in
theorem vm_cd61 : lw_tbl[507]? = some (Cond.code (vm_name 61) (vm_code 61) (vm_max 61) (vm_ret 61)) := rfl
set_option maxRecDepth 100000 in
theorem vm_cd62 : lw_tbl[515]? = some (Cond.code (vm_name 62) (vm_code 62) (vm_max 62) (vm_ret 62)) := rfl
set_option maxRecDepth 100000 in
theorem vm_cd63 : lw_tbl[261]? = some (Cond.code (vm_name 63) (vm_code 63) (vm_max 63) (vm_ret 63)) := rfl
set_option maxRecDepth 100000 in
theorem vm_cd64 : lw_tbl[284]? = some (Cond.code (vm_name 64) (vm_code 64) (vm_max 64) (vm_ret 64)) := rfl
set_option maxRecDepth 100000 in
theorem vm_cd65 : lw_tbl[366]? = some (Cond.code (vm_name 65) (vm_code 65) (vm_max 65) (vm_ret 65)) := rfl
set_option maxRecDepth 100000 in
theorem vm_cd66 : lw_tbl[362]? = some (Cond.code (vm_name 66) (vm_code 66) (vm_max 66) (vm_ret 66)) := rfl
set_option maxRecDepth 100000 in
theorem vm_cd67 : lw_tbl[370]? = some (Cond.code (vm_name 67) (vm_code 67) (vm_max 67) (vm_ret 67)) := rfl
set_option maxRecDepth 100000 in
theorem vm_cd68 : lw_tbl[405]? = some (Cond.code (vm_name 68) (vm_code 68) (vm_max 68) (vm_ret 68)) := rfl
set_option maxRecDepth 100000 in
theorem vm_cd69 : lw_tbl[410]? = some (Cond.code (vm_name 69) (vm_code 69) (vm_max 69) (vm_ret 69)) := rfl
set_option maxRecDepth 100000 in
theorem vm_cd70 : lw_tbl[435]? = some (Cond.code (vm_name 70) (vm_code 70) (vm_max 70) (vm_ret 70)) := rfl
set_option maxRecDepth 100000 in
theorem vm_cd71 : lw_tbl[476]? = some (Cond.code (vm_name 71) (vm_code 71) (vm_max 71) (vm_ret 71)) := rfl
set_option maxRecDepth 100000 in
theorem vm_cd72 : lw_tbl[442]? = some (Cond.code (vm_name 72) (vm_code 72) (vm_max 72) (vm_ret 72)) := rfl
set_option maxRecDepth 100000 in
theorem vm_cd73 : lw_tbl[295]? = some (Cond.code (vm_name 73) (vm_code 73) (vm_max 73) (vm_ret 73)) := rfl
set_option maxRecDepth 100000 in
theorem vm_cd74 : lw_tbl[337]? = some (Cond.code (vm_name 74) (vm_code 74) (vm_max 74) (vm_ret 74)) := rfl
set_option maxRecDepth 100000 in
theorem vm_cd75 : lw_tbl[388]? = some (Cond.code (vm_name 75) (vm_code 75) (vm_max 75) (vm_ret 75)) := rfl
set_option maxRecDepth 100000 in
theorem vm_cd76 : lw_tbl[632]? = some (Cond.code (vm_name 76) (vm_code 76) (vm_max 76) (vm_ret 76)) := rfl
set_option maxRecDepth 100000 in
theorem vm_cd78 : lw_tbl[796]? = some (Cond.code (vm_name 78) (vm_code 78) (vm_max 78) (vm_ret 78)) := rfl
set_option maxRecDepth 100000 in
theorem vm_cd79 : lw_tbl[860]? = some (Cond.code (vm_name 79) (vm_code 79) (vm_max 79) (vm_ret 79)) := rfl
set_option maxRecDepth 100000 in
theorem vm_cd80 : lw_tbl[856]? = some (Cond.code (vm_name 80) (vm_code 80) (vm_max 80) (vm_ret 80)) := rfl
set_option maxRecDepth 100000 in
theorem vm_cd81 : lw_tbl[778]? = some (Cond.code (vm_name 81) (vm_code 81) (vm_max 81) (vm_ret 81)) := rfl
set_option maxRecDepth 100000 in
theorem vm_cd82 : lw_tbl[785]? = some (Cond.code (vm_name 82) (vm_code 82) (vm_max 82) (vm_ret 82)) := rfl
set_option maxRecDepth 100000 in
theorem vm_cd83 : lw_tbl[782]? = some (Cond.code (vm_name 83) (vm_code 83) (vm_max 83) (vm_ret 83)) := rfl
set_option maxRecDepth 100000 in
theorem vm_cd84 : lw_tbl[868]? = some (Cond.code (vm_name 84) (vm_code 84) (vm_max 84) (vm_ret 84)) := rfl
set_option maxRecDepth 100000 in
theorem vm_cd85 : lw_tbl[793]? = some (Cond.code (vm_name 85) (vm_code 85) (vm_max 85) (vm_ret 85)) := rfl
set_option maxRecDepth 100000 in
theorem vm_cd86 : lw_tbl[789]? = some (Cond.code (vm_name 86) (vm_code 86) (vm_max 86) (vm_ret 86)) := rfl
set_option maxRecDepth 100000 in
theorem vm_cd87 : lw_tbl[832]? = some (Cond.code (vm_name 87) (vm_code 87) (vm_max 87) (vm_ret 87)) := rfl
set_option maxRecDepth 100000 in
theorem vm_cd88 : lw_tbl[842]? = some (Cond.code (vm_name 88) (vm_code 88) (vm_max 88) (vm_ret 88)) := rfl
set_option maxRecDepth 100000 in
theorem vm_cd89 : lw_tbl[852]? = some (Cond.code (vm_name 89) (vm_code 89) (vm_max 89) (vm_ret 89)) := rfl
set_option maxRecDepth 100000 in
theorem vm_cd90 : lw_tbl[847]? = some (Cond.code (vm_name 90) (vm_code 90) (vm_max 90) (vm_ret 90)) := rfl
set_option maxRecDepth 100000 in
theorem vm_cd91 : lw_tbl[838]? = some (Cond.code (vm_name 91) (vm_code 91) (vm_max 91) (vm_ret 91)) := rfl
set_option maxRecDepth 100000 in
theorem vm_cd92 : lw_tbl[828]? = some (Cond.code (vm_name 92) (vm_code 92) (vm_max 92) (vm_ret 92)) := rfl
set_option maxRecDepth 100000 in
theorem vm_cd93 : lw_tbl[824]? = some (Cond.code (vm_name 93) (vm_code 93) (vm_max 93) (vm_ret 93)) := rfl
set_option maxRecDepth 100000 in
theorem vm_cd94 : lw_tbl[816]? = some (Cond.code (vm_name 94) (vm_code 94) (vm_max 94) (vm_ret 94)) := rfl
set_option maxRecDepth 100000 in
theorem vm_cd95 : lw_tbl[812]? = some (Cond.code (vm_name 95) (vm_code 95) (vm_max 95) (vm_ret 95)) := rfl
set_option maxRecDepth 100000 in
theorem vm_cd96 : lw_tbl[808]? = some (Cond.code (vm_name 96) (vm_code 96) (vm_max 96) (vm_ret 96)) := rfl
set_option maxRecDepth 100000 in
theorem vm_cd97 : lw_tbl[820]? = some (Cond.code (vm_name 97) (vm_code 97) (vm_max 97) (vm_ret 97)) := rfl
set_option maxRecDepth 100000 in
theorem vm_cd98 : lw_tbl[864]? = some (Cond.code (vm_name 98) (vm_code 98) (vm_max 98) (vm_ret 98)) := rfl
set_option maxRecDepth 100000 in
theorem vm_cd99 : lw_tbl[800]? = some (Cond.code (vm_name 99) (vm_code 99) (vm_max 99) (vm_ret 99)) := rfl
set_option maxRecDepth 100000 in
theorem vm_cd100 : lw_tbl[804]? = some (Cond.code (vm_name 100) (vm_code 100) (vm_max 100) (vm_ret 100)) := rfl
set_option maxRecDepth 100000 in
theorem vm_cd101 : lw_tbl[774]? = some (Cond.code (vm_name 101) (vm_code 101) (vm_max 101) (vm_ret 101)) := rfl
set_option maxRecDepth 100000 in
theorem vm_cd102 : lw_tbl[770]? = some (Cond.code (vm_name 102) (vm_code 102) (vm_max 102) (vm_ret 102)) := rfl
set_option maxRecDepth 100000 in
theorem vm_cd103 : lw_tbl[876]? = some (Cond.code (vm_name 103) (vm_code 103) (vm_max 103) (vm_ret 103)) := rfl
set_option maxRecDepth 100000 in
theorem vm_cd104 : lw_tbl[872]? = some (Cond.code (vm_name 104) (vm_code 104) (vm_max 104) (vm_ret 104)) := rfl
set_option maxRecDepth 100000 in
theorem vm_cd105 : lw_tbl[880]? = some (Cond.code (vm_name 105) (vm_code 105) (vm_max 105) (vm_ret 105)) := rfl
set_option maxRecDepth 100000 in
theorem vm_cd106 : lw_tbl[884]? = some (Cond.code (vm_name 106) (vm_code 106) (vm_max 106) (vm_ret 106)) := rfl
set_option maxRecDepth 100000 in
theorem vm_cd107 : lw_tbl[888]? = some (Cond.code (vm_name 107) (vm_code 107) (vm_max 107) (vm_ret 107)) := rfl
set_option maxRecDepth 100000 in
theorem vm_cd108 : lw_tbl[892]? = some (Cond.code (vm_name 108) (vm_code 108) (vm_max 108) (vm_ret 108)) := rfl
set_option maxRecDepth 100000 in
theorem vm_cd109 : lw_tbl[898]? = some (Cond.code (vm_name 109) (vm_code 109) (vm_max 109) (vm_ret 109)) := rfl
set_option maxRecDepth 100000 in
theorem vm_cd110 : lw_tbl[906]? = some (Cond.code (vm_name 110) (vm_code 110) (vm_max 110) (vm_ret 110)) := rfl
set_option maxRecDepth 100000 in
theorem vm_cd111 : lw_tbl[910]? = some (Cond.code (vm_name 111) (vm_code 111) (vm_max 111) (vm_ret 111)) := rfl
set_option maxRecDepth 100000 in
theorem vm_cd112 : lw_tbl[902]? = some (Cond.code (vm_name 112) (vm_code 112) (vm_max 112) (vm_ret 112)) := rfl
set_option maxRecDepth 100000 in
theorem vm_cd113 : lw_tbl[914]? = some (Cond.code (vm_name 113) (vm_code 113) (vm_max 113) (vm_ret 113)) := rfl
set_option maxRecDepth 100000 in
theorem vm_cd114 : lw_tbl[922]? = some (Cond.code (vm_name 114) (vm_code 114) (vm_max 114) (vm_ret 114)) := rfl
set_option maxRecDepth 100000 in
theorem vm_cd115 : lw_tbl[918]? = some (Cond.code (vm_name 115) (vm_code 115) (vm_max 115) (vm_ret 115)) := rfl
set_option maxRecDepth 100000 in
theorem vm_cd116 : lw_tbl[926]? = some (Cond.code (vm_name 116) (vm_code 116) (vm_max 116) (vm_ret 116)) := rfl
set_option maxRecDepth 100000 in
theorem vm_cd117 : lw_tbl[930]? = some (Cond.code (vm_name 117) (vm_code 117) (vm_max 117) (vm_ret 117)) := rfl
set_option maxRecDepth 100000 in
theorem vm_cd118 : lw_tbl[942]? = some (Cond.code (vm_name 118) (vm_code 118) (vm_max 118) (vm_ret 118)) := rfl
set_option maxRecDepth 100000 in
theorem vm_cd119 : lw_tbl[938]? = some (Cond.code (vm_name 119) (vm_code 119) (vm_max 119) (vm_ret 119)) := rfl
set_option maxRecDepth 100000 in
theorem vm_cd120 : lw_tbl[934]? = some (Cond.code (vm_name 120) (vm_code 120) (vm_max 120) (vm_ret 120)) := rfl
set_option maxRecDepth 100000 in
theorem vm_cd121 : lw_tbl[946]? = some (Cond.code (vm_name 121) (vm_code 121) (vm_max 121) (vm_ret 121)) := rfl
set_option maxRecDepth 100000 in
theorem vm_cd122 : lw_tbl[950]? = some (Cond.code (vm_name 122) (vm_code 122) (vm_max 122) (vm_ret 122)) := rfl
set_option maxRecDepth 100000 in
theorem vm_cd123 : lw_tbl[268]? = some (Cond.code (vm_name 123) (vm_code 123) (vm_max 123) (vm_ret 123)) := rfl
theorem vm_cdin : ∀ j : Nat, j < vm_n → (vm_mp j).1 ≠ 0 → Cond.code (vm_name j) (vm_code j) (vm_max j) (vm_ret j) ∈ vm_ws := by
  intro j hj h0
  match j, hj, h0 with
  | 0, _, h0 => exact absurd rfl h0
  | 1, _, _ => exact List.mem_filter.mpr ⟨List.mem_of_getElem? vm_cd1, rfl⟩
  | 2, _, _ => exact List.mem_filter.mpr ⟨List.mem_of_getElem? vm_cd2, rfl⟩
  | 3, _, _ => exact List.mem_filter.mpr ⟨List.mem_of_getElem? vm_cd3, rfl⟩
  | 4, _, _ => exact List.mem_filter.mpr ⟨List.mem_of_getElem? vm_cd4, rfl⟩
  | 5, _, _ => exact List.mem_filter.mpr ⟨List.mem_of_getElem? vm_cd5, rfl⟩
  | 6, _, _ => exact List.mem_filter.mpr ⟨List.mem_of_getElem? vm_cd6, rfl⟩
  | 7, _, _ => exact List.mem_filter.mpr ⟨List.mem_of_getElem? vm_cd7, rfl⟩
  | 8, _, _ => exact List.mem_filter.mpr ⟨List.mem_of_getElem? vm_cd8, rfl⟩
  | 9, _, _ => exact List.mem_filter.mpr ⟨List.mem_of_getElem? vm_cd9, rfl⟩
  | 10, _, _ => exact List.mem_filter.mpr ⟨List.mem_of_getElem? vm_cd10, rfl⟩
  | 11, _, _ => exact List.mem_filter.mpr ⟨List.mem_of_getElem? vm_cd11, rfl⟩
  | 12, _, _ => exact List.mem_filter.mpr ⟨List.mem_of_getElem? vm_cd12, rfl⟩
  | 13, _, _ => exact List.mem_filter.mpr ⟨List.mem_of_getElem? vm_cd13, rfl⟩
  | 14, _, _ => exact List.mem_filter.mpr ⟨List.mem_of_getElem? vm_cd14, rfl⟩
  | 15, _, _ => exact List.mem_filter.mpr ⟨List.mem_of_getElem? vm_cd15, rfl⟩
  | 16, _, _ => exact List.mem_filter.mpr ⟨List.mem_of_getElem? vm_cd16, rfl⟩
  | 17, _, _ => exact List.mem_filter.mpr ⟨List.mem_of_getElem? vm_cd17, rfl⟩
  | 18, _, _ => exact List.mem_filter.mpr ⟨List.mem_of_getElem? vm_cd18, rfl⟩
  | 19, _, _ => exact List.mem_filter.mpr ⟨List.mem_of_getElem? vm_cd19, rfl⟩
  | 20, _, _ => exact List.mem_filter.mpr ⟨List.mem_of_getElem? vm_cd20, rfl⟩
  | 21, _, _ => exact List.mem_filter.mpr ⟨List.mem_of_getElem? vm_cd21, rfl⟩
  | 22, _, _ => exact List.mem_filter.mpr ⟨List.mem_of_getElem? vm_cd22, rfl⟩
  | 23, _, _ => exact List.mem_filter.mpr ⟨List.mem_of_getElem? vm_cd23, rfl⟩
  | 24, _, _ => exact List.mem_filter.mpr ⟨List.mem_of_getElem? vm_cd24, rfl⟩
  | 25, _, _ => exact List.mem_filter.mpr ⟨List.mem_of_getElem? vm_cd25, rfl⟩
  | 26, _, _ => exact List.mem_filter.mpr ⟨List.mem_of_getElem? vm_cd26, rfl⟩
  | 27, _, _ => exact List.mem_filter.mpr ⟨List.mem_of_getElem? vm_cd27, rfl⟩
  | 28, _, _ => exact List.mem_filter.mpr ⟨List.mem_of_getElem? vm_cd28, rfl⟩
  | 29, _, _ => exact List.mem_filter.mpr ⟨List.mem_of_getElem? vm_cd29, rfl⟩
  | 30, _, _ => exact List.mem_filter.mpr ⟨List.mem_of_getElem? vm_cd30, rfl⟩
  | 31, _, _ => exact List.mem_filter.mpr ⟨List.mem_of_getElem? vm_cd31, rfl⟩
  | 32, _, _ => exact List.mem_filter.mpr ⟨List.mem_of_getElem? vm_cd32, rfl⟩
  | 33, _, _ => exact List.mem_filter.mpr ⟨List.mem_of_getElem? vm_cd33, rfl⟩
  | 34, _, _ => exact List.mem_filter.mpr ⟨List.mem_of_getElem? vm_cd34, rfl⟩
  | 35, _, _ => exact List.mem_filter.mpr ⟨List.mem_of_getElem? vm_cd35, rfl⟩
  | 36, _, _ => exact List.mem_filter.mpr ⟨List.mem_of_getElem? vm_cd36, rfl⟩
  | 37, _, _ => exact List.mem_filter.mpr ⟨List.mem_of_getElem? vm_cd37, rfl⟩
  | 38, _, _ => exact List.mem_filter.mpr ⟨List.mem_of_getElem? vm_cd38, rfl⟩
  | 39, _, _ => exact List.mem_filter.mpr ⟨List.mem_of_getElem? vm_cd39, rfl⟩
  | 40, _, _ => exact List.mem_filter.mpr ⟨List.mem_of_getElem? vm_cd40, rfl⟩
  | 41, _, _ => exact List.mem_filter.mpr ⟨List.mem_of_getElem? vm_cd41, rfl⟩
  | 42, _, _ => exact List.mem_filter.mpr ⟨List.mem_of_getElem? vm_cd42, rfl⟩
  | 43, _, _ => exact List.mem_filter.mpr ⟨List.mem_of_getElem? vm_cd43, rfl⟩
  | 44, _, _ => exact List.mem_filter.mpr ⟨List.mem_of_getElem? vm_cd44, rfl⟩
  | 45, _, _ => exact List.mem_filter.mpr ⟨List.mem_of_getElem? vm_cd45, rfl⟩
  | 46, _, _ => exact List.mem_filter.mpr ⟨List.mem_of_getElem? vm_cd46, rfl⟩
  | 47, _, _ => exact List.mem_filter.mpr ⟨List.mem_of_getElem? vm_cd47, rfl⟩
  | 48, _, _ => exact List.mem_filter.mpr ⟨List.mem_of_getElem? vm_cd48, rfl⟩
  | 49, _, _ => exact List.mem_filter.mpr ⟨List.mem_of_getElem? vm_cd49, rfl⟩
  | 50, _, _ => exact List.mem_filter.mpr ⟨List.mem_of_getElem? vm_cd50, rfl⟩
  | 51, _, _ => exact List.mem_filter.mpr ⟨List.mem_of_getElem? vm_cd51, rfl⟩
  | 52, _, _ => exact List.mem_filter.mpr ⟨List.mem_of_getElem? vm_cd52, rfl⟩
  | 53, _, _ => exact List.mem_filter.mpr ⟨List.mem_of_getElem? vm_cd53, rfl⟩
  | 54, _, _ => exact List.mem_filter.mpr ⟨List.mem_of_getElem? vm_cd54, rfl⟩
  | 55, _, _ => exact List.mem_filter.mpr ⟨List.mem_of_getElem? vm_cd55, rfl⟩
  | 56, _, _ => exact List.mem_filter.mpr ⟨List.mem_of_getElem? vm_cd56, rfl⟩
  | 57, _, _ => exact List.mem_filter.mpr ⟨List.mem_of_getElem? vm_cd57, rfl⟩
  | 58, _, _ => exact List.mem_filter.mpr ⟨List.mem_of_getElem? vm_cd58, rfl⟩
  | 59, _, _ => exact List.mem_filter.mpr ⟨List.mem_of_getElem? vm_cd59, rfl⟩
  | 60, _, _ => exact List.mem_filter.mpr ⟨List.mem_of_getElem? vm_cd60, rfl⟩
  | 61, _, _ => exact List.mem_filter.mpr ⟨List.mem_of_getElem? vm_cd61, rfl⟩
  | 62, _, _ => exact List.mem_filter.mpr ⟨List.mem_of_getElem? vm_cd62, rfl⟩
  | 63, _, _ => exact List.mem_filter.mpr ⟨List.mem_of_getElem? vm_cd63, rfl⟩
  | 64, _, _ => exact List.mem_filter.mpr ⟨List.mem_of_getElem? vm_cd64, rfl⟩
  | 65, _, _ => exact List.mem_filter.mpr ⟨List.mem_of_getElem? vm_cd65, rfl⟩
  | 66, _, _ => exact List.mem_filter.mpr ⟨List.mem_of_getElem? vm_cd66, rfl⟩
  | 67, _, _ => exact List.mem_filter.mpr ⟨List.mem_of_getElem? vm_cd67, rfl⟩
  | 68, _, _ => exact List.mem_filter.mpr ⟨List.mem_of_getElem? vm_cd68, rfl⟩
  | 69, _, _ => exact List.mem_filter.mpr ⟨List.mem_of_getElem? vm_cd69, rfl⟩
  | 70, _, _ => exact List.mem_filter.mpr ⟨List.mem_of_getElem? vm_cd70, rfl⟩
  | 71, _, _ => exact List.mem_filter.mpr ⟨List.mem_of_getElem? vm_cd71, rfl⟩
  | 72, _, _ => exact List.mem_filter.mpr ⟨List.mem_of_getElem? vm_cd72, rfl⟩
  | 73, _, _ => exact List.mem_filter.mpr ⟨List.mem_of_getElem? vm_cd73, rfl⟩
  | 74, _, _ => exact List.mem_filter.mpr ⟨List.mem_of_getElem? vm_cd74, rfl⟩
  | 75, _, _ => exact List.mem_filter.mpr ⟨List.mem_of_getElem? vm_cd75, rfl⟩
  | 76, _, _ => exact List.mem_filter.mpr ⟨List.mem_of_getElem? vm_cd76, rfl⟩
  | 77, _, h0 => exact absurd rfl h0
  | 78, _, _ => exact List.mem_filter.mpr ⟨List.mem_of_getElem? vm_cd78, rfl⟩
  | 79, _, _ => exact List.mem_filter.mpr ⟨List.mem_of_getElem? vm_cd79, rfl⟩
  | 80, _, _ => exact List.mem_filter.mpr ⟨List.mem_of_getElem? vm_cd80, rfl⟩
  | 81, _, _ => exact List.mem_filter.mpr ⟨List.mem_of_getElem? vm_cd81, rfl⟩
  | 82, _, _ => exact List.mem_filter.mpr ⟨List.mem_of_getElem? vm_cd82, rfl⟩
  | 83, _, _ => exact List.mem_filter.mpr ⟨List.mem_of_getElem? vm_cd83, rfl⟩
  | 84, _, _ => exact List.mem_filter.mpr ⟨List.mem_of_getElem? vm_cd84, rfl⟩
  | 85, _, _ => exact List.mem_filter.mpr ⟨List.mem_of_getElem? vm_cd85, rfl⟩
  | 86, _, _ => exact List.mem_filter.mpr ⟨List.mem_of_getElem? vm_cd86, rfl⟩
  | 87, _, _ => exact List.mem_filter.mpr ⟨List.mem_of_getElem? vm_cd87, rfl⟩
  | 88, _, _ => exact List.mem_filter.mpr ⟨List.mem_of_getElem? vm_cd88, rfl⟩
  | 89, _, _ => exact List.mem_filter.mpr ⟨List.mem_of_getElem? vm_cd89, rfl⟩
  | 90, _, _ => exact List.mem_filter.mpr ⟨List.mem_of_getElem? vm_cd90, rfl⟩
  | 91, _, _ => exact List.mem_filter.mpr ⟨List.mem_of_getElem? vm_cd91, rfl⟩
  | 92, _, _ => exact List.mem_filter.mpr ⟨List.mem_of_getElem? vm_cd92, rfl⟩
  | 93, _, _ => exact List.mem_filter.mpr ⟨List.mem_of_getElem? vm_cd93, rfl⟩
  | 94, _, _ => exact List.mem_filter.mpr ⟨List.mem_of_getElem? vm_cd94, rfl⟩
  | 95, _, _ => exact List.mem_filter.mpr ⟨List.mem_of_getElem? vm_cd95, rfl⟩
  | 96, _, _ => exact List.mem_filter.mpr ⟨List.mem_of_getElem? vm_cd96, rfl⟩
  | 97, _, _ => exact List.mem_filter.mpr ⟨List.mem_of_getElem? vm_cd97, rfl⟩
  | 98, _, _ => exact List.mem_filter.mpr ⟨List.mem_of_getElem? vm_cd98, rfl⟩
  | 99, _, _ => exact List.mem_filter.mpr ⟨List.mem_of_getElem? vm_cd99, rfl⟩
  | 100, _, _ => exact List.mem_filter.mpr ⟨List.mem_of_getElem? vm_cd100, rfl⟩
  | 101, _, _ => exact List.mem_filter.mpr ⟨List.mem_of_getElem? vm_cd101, rfl⟩
  | 102, _, _ => exact List.mem_filter.mpr ⟨List.mem_of_getElem? vm_cd102, rfl⟩
  | 103, _, _ => exact List.mem_filter.mpr ⟨List.mem_of_getElem? vm_cd103, rfl⟩
  | 104, _, _ => exact List.mem_filter.mpr ⟨List.mem_of_getElem? vm_cd104, rfl⟩
  | 105, _, _ => exact List.mem_filter.mpr ⟨List.mem_of_getElem? vm_cd105, rfl⟩
  | 106, _, _ => exact List.mem_filter.mpr ⟨List.mem_of_getElem? vm_cd106, rfl⟩
  | 107, _, _ => exact List.mem_filter.mpr ⟨List.mem_of_getElem? vm_cd107, rfl⟩
  | 108, _, _ => exact List.mem_filter.mpr ⟨List.mem_of_getElem? vm_cd108, rfl⟩
  | 109, _, _ => exact List.mem_filter.mpr ⟨List.mem_of_getElem? vm_cd109, rfl⟩
  | 110, _, _ => exact List.mem_filter.mpr ⟨List.mem_of_getElem? vm_cd110, rfl⟩
  | 111, _, _ => exact List.mem_filter.mpr ⟨List.mem_of_getElem? vm_cd111, rfl⟩
  | 112, _, _ => exact List.mem_filter.mpr ⟨List.mem_of_getElem? vm_cd112, rfl⟩
  | 113, _, _ => exact List.mem_filter.mpr ⟨List.mem_of_getElem? vm_cd113, rfl⟩
  | 114, _, _ => exact List.mem_filter.mpr ⟨List.mem_of_getElem? vm_cd114, rfl⟩
  | 115, _, _ => exact List.mem_filter.mpr ⟨List.mem_of_getElem? vm_cd115, rfl⟩
  | 116, _, _ => exact List.mem_filter.mpr ⟨List.mem_of_getElem? vm_cd116, rfl⟩
  | 117, _, _ => exact List.mem_filter.mpr ⟨List.mem_of_getElem? vm_cd117, rfl⟩
  | 118, _, _ => exact List.mem_filter.mpr ⟨List.mem_of_getElem? vm_cd118, rfl⟩
  | 119, _, _ => exact List.mem_filter.mpr ⟨List.mem_of_getElem? vm_cd119, rfl⟩
  | 120, _, _ => exact List.mem_filter.mpr ⟨List.mem_of_getElem? vm_cd120, rfl⟩
  | 121, _, _ => exact List.mem_filter.mpr ⟨List.mem_of_getElem? vm_cd121, rfl⟩
  | 122, _, _ => exact List.mem_filter.mpr ⟨List.mem_of_getElem? vm_cd122, rfl⟩
  | 123, _, _ => exact List.mem_filter.mpr ⟨List.mem_of_getElem? vm_cd123, rfl⟩
  | 124, _, h0 => exact absurd rfl h0
  | n + 125, hj, _ => exact absurd hj (by show ¬ n + 125 < 125; omega)
theorem vm_mchk_ok : ∀ j : Nat, j < vm_n → vm_mchk j = true := by
  intro j hj
  have hj : j < 125 := hj
  by_cases h0 : j < 8
  · exact List.all_eq_true.mp vm_mchk_ok0 j (vm_rd j 0 8 h0 (by omega))
  by_cases h8 : j < 16
  · exact List.all_eq_true.mp vm_mchk_ok8 j (vm_rd j 8 16 h8 (by omega))
  by_cases h16 : j < 24
  · exact List.all_eq_true.mp vm_mchk_ok16 j (vm_rd j 16 24 h16 (by omega))
  by_cases h24 : j < 32
  · exact List.all_eq_true.mp vm_mchk_ok24 j (vm_rd j 24 32 h24 (by omega))
  by_cases h32 : j < 40
  · exact List.all_eq_true.mp vm_mchk_ok32 j (vm_rd j 32 40 h32 (by omega))
  by_cases h40 : j < 48
  · exact List.all_eq_true.mp vm_mchk_ok40 j (vm_rd j 40 48 h40 (by omega))
  by_cases h48 : j < 56
  · exact List.all_eq_true.mp vm_mchk_ok48 j (vm_rd j 48 56 h48 (by omega))
  by_cases h56 : j < 64
  · exact List.all_eq_true.mp vm_mchk_ok56 j (vm_rd j 56 64 h56 (by omega))
  by_cases h64 : j < 72
  · exact List.all_eq_true.mp vm_mchk_ok64 j (vm_rd j 64 72 h64 (by omega))
  by_cases h72 : j < 80
  · exact List.all_eq_true.mp vm_mchk_ok72 j (vm_rd j 72 80 h72 (by omega))
  by_cases h80 : j < 88
  · exact List.all_eq_true.mp vm_mchk_ok80 j (vm_rd j 80 88 h80 (by omega))
  by_cases h88 : j < 96
  · exact List.all_eq_true.mp vm_mchk_ok88 j (vm_rd j 88 96 h88 (by omega))
  by_cases h96 : j < 104
  · exact List.all_eq_true.mp vm_mchk_ok96 j (vm_rd j 96 104 h96 (by omega))
  by_cases h104 : j < 112
  · exact List.all_eq_true.mp vm_mchk_ok104 j (vm_rd j 104 112 h104 (by omega))
  by_cases h112 : j < 120
  · exact List.all_eq_true.mp vm_mchk_ok112 j (vm_rd j 112 120 h112 (by omega))
  by_cases h120 : j < 125
  · exact List.all_eq_true.mp vm_mchk_ok120 j (vm_rd j 120 125 h120 (by omega))
  omega
def vm_lpX0 : List Nat := [86, 88, 90, 92]
set_option maxRecDepth 100000 in
theorem vm_layX0 : (List.range 4).all (fun j => vm_has (vm_lpX0.getD j 0) (u_lay "TriangleSets$Places" vm_TX0 j)) = true := by decide +kernel
theorem vm_nmX0 : ∀ a, a < 4 → ∀ b, b < 4 → a ≠ b → (vm_TX0 a).2.1 ≠ (vm_TX0 b).2.1 := by decide +kernel
theorem vm_tyX0_ok : ∀ k, k < 4 → parseFieldDescriptor (vm_TX0 k).2.2.1 = some (vm_tyX0 k) := by decide +kernel
theorem vm_inX0 : vm_has 75 (.instantiable "TriangleSets$Places" 4) = true ∧ vm_has 53 (.initialized "TriangleSets$Places") = true := by decide +kernel
def vm_lpX1 : List Nat := [119, 121, 123]
set_option maxRecDepth 100000 in
theorem vm_layX1 : (List.range 3).all (fun j => vm_has (vm_lpX1.getD j 0) (u_lay "TriangleSets$Polynomial" vm_TX1 j)) = true := by decide +kernel
theorem vm_nmX1 : ∀ a, a < 3 → ∀ b, b < 3 → a ≠ b → (vm_TX1 a).2.1 ≠ (vm_TX1 b).2.1 := by decide +kernel
theorem vm_tyX1_ok : ∀ k, k < 3 → parseFieldDescriptor (vm_TX1 k).2.2.1 = some (vm_tyX1 k) := by decide +kernel
theorem vm_inX1 : vm_has 100 (.instantiable "TriangleSets$Polynomial" 3) = true ∧ vm_has 54 (.initialized "TriangleSets$Polynomial") = true := by decide +kernel
def vm_lpX2 : List Nat := [150, 152, 154]
set_option maxRecDepth 100000 in
theorem vm_layX2 : (List.range 3).all (fun j => vm_has (vm_lpX2.getD j 0) (u_lay "TriangleSets$Row" vm_TX2 j)) = true := by decide +kernel
theorem vm_nmX2 : ∀ a, a < 3 → ∀ b, b < 3 → a ≠ b → (vm_TX2 a).2.1 ≠ (vm_TX2 b).2.1 := by decide +kernel
theorem vm_tyX2_ok : ∀ k, k < 3 → parseFieldDescriptor (vm_TX2 k).2.2.1 = some (vm_tyX2 k) := by decide +kernel
theorem vm_inX2 : vm_has 128 (.instantiable "TriangleSets$Row" 3) = true ∧ vm_has 55 (.initialized "TriangleSets$Row") = true := by decide +kernel
def vm_lpX3 : List Nat := [184, 186, 188, 190, 192]
set_option maxRecDepth 100000 in
theorem vm_layX3 : (List.range 5).all (fun j => vm_has (vm_lpX3.getD j 0) (u_lay "TriangleSets$Stepper" vm_TX3 j)) = true := by decide +kernel
theorem vm_nmX3 : ∀ a, a < 5 → ∀ b, b < 5 → a ≠ b → (vm_TX3 a).2.1 ≠ (vm_TX3 b).2.1 := by decide +kernel
theorem vm_tyX3_ok : ∀ k, k < 5 → parseFieldDescriptor (vm_TX3 k).2.2.1 = some (vm_tyX3 k) := by decide +kernel
theorem vm_inX3 : vm_has 174 (.instantiable "TriangleSets$Stepper" 5) = true ∧ vm_has 57 (.initialized "TriangleSets$Stepper") = true := by decide +kernel
def vm_lpX4 : List Nat := [168, 170]
set_option maxRecDepth 100000 in
theorem vm_layX4 : (List.range 2).all (fun j => vm_has (vm_lpX4.getD j 0) (u_lay "TriangleSets$Triangle" vm_TX4 j)) = true := by decide +kernel
theorem vm_nmX4 : ∀ a, a < 2 → ∀ b, b < 2 → a ≠ b → (vm_TX4 a).2.1 ≠ (vm_TX4 b).2.1 := by decide +kernel
theorem vm_tyX4_ok : ∀ k, k < 2 → parseFieldDescriptor (vm_TX4 k).2.2.1 = some (vm_tyX4 k) := by decide +kernel
theorem vm_inX4 : vm_has 158 (.instantiable "TriangleSets$Triangle" 2) = true ∧ vm_has 56 (.initialized "TriangleSets$Triangle") = true := by decide +kernel
def vm_lpX5 : List Nat := [213, 215, 217, 219, 221, 223, 225, 227, 229, 231, 233, 235, 237, 239, 241, 243, 245, 247]
set_option maxRecDepth 100000 in
theorem vm_layX5 : (List.range 18).all (fun j => vm_has (vm_lpX5.getD j 0) (u_lay "TriangleSets" vm_TX5 j)) = true := by decide +kernel
theorem vm_nmX5 : ∀ a, a < 18 → ∀ b, b < 18 → a ≠ b → (vm_TX5 a).2.1 ≠ (vm_TX5 b).2.1 := by decide +kernel
theorem vm_tyX5_ok : ∀ k, k < 18 → parseFieldDescriptor (vm_TX5 k).2.2.1 = some (vm_tyX5 k) := by decide +kernel
theorem vm_inX5 : vm_has 67 (.instantiable "TriangleSets" 18) = true ∧ vm_has 52 (.initialized "TriangleSets") = true := by decide +kernel
def vm_lpX6 : List Nat := [678, 680, 682, 684, 686, 688, 690, 692, 694, 696, 698, 700, 702, 704, 706, 708, 710, 712, 714, 716, 718, 720, 722, 724, 726, 728, 730, 732, 734, 736, 738, 740, 742, 744, 746, 748, 750, 752, 754, 756, 758, 760, 762, 764]
set_option maxRecDepth 100000 in
theorem vm_layX6 : (List.range 44).all (fun j => vm_has (vm_lpX6.getD j 0) (u_lay "TriangleSetsModel" vm_TX6 j)) = true := by decide +kernel
theorem vm_nmX6 : ∀ a, a < 44 → ∀ b, b < 44 → a ≠ b → (vm_TX6 a).2.1 ≠ (vm_TX6 b).2.1 := by decide +kernel
theorem vm_tyX6_ok : ∀ k, k < 44 → parseFieldDescriptor (vm_TX6 k).2.2.1 = some (vm_tyX6 k) := by decide +kernel
theorem vm_inX6 : vm_has 629 (.instantiable "TriangleSetsModel" 44) = true ∧ vm_has 58 (.initialized "TriangleSetsModel") = true := by decide +kernel
theorem vm_arI0 : vm_has 97 (.arrayClass .int) = true := by decide +kernel
theorem vm_arL0 : vm_has 96 (.arrayClass .long) = true := by decide +kernel
theorem vm_arZ0 : vm_has 95 (.arrayClass .boolean) = true := by decide +kernel
theorem vm_oI0 : vm_has 72 (.instanceMethod objectInit) = true ∧ vm_has 73 (.code objectInit ⟨#[0xb1]⟩ 1 none) = true := by decide +kernel
theorem vm_ac0 : vm_has 346 (.native arraycopyName) = true ∧ vm_has 345 (.static arraycopyName) = true ∧ vm_has 60 (.initialized "java/lang/System") = true := by decide +kernel
theorem vm_ma10 : vm_has 399 (.static Lib.Math.max.name) = true ∧ vm_has 61 (.initialized "java/lang/Math") = true := by decide +kernel
set_option maxRecDepth 100000 in
theorem vm_mc10 : lw_tbl[400]? = some (Cond.code Lib.Math.max.name Lib.Math.max.code 2 (some .int)) := rfl
theorem vm_md10 : Cond.code Lib.Math.max.name Lib.Math.max.code 2 (some .int) ∈ vm_ws := List.mem_filter.mpr ⟨List.mem_of_getElem? vm_mc10, rfl⟩
theorem vm_ma11 : vm_has 437 (.static Lib.Math.min.name) = true ∧ vm_has 61 (.initialized "java/lang/Math") = true := by decide +kernel
set_option maxRecDepth 100000 in
theorem vm_mc11 : lw_tbl[438]? = some (Cond.code Lib.Math.min.name Lib.Math.min.code 2 (some .int)) := rfl
theorem vm_md11 : Cond.code Lib.Math.min.name Lib.Math.min.code 2 (some .int) ∈ vm_ws := List.mem_filter.mpr ⟨List.mem_of_getElem? vm_mc11, rfl⟩
theorem vm_ma12 : vm_has 384 (.static Lib.MathLoose.abs_long.x) = true ∧ vm_has 61 (.initialized "java/lang/Math") = true := by decide +kernel
set_option maxRecDepth 100000 in
theorem vm_mc12 : lw_tbl[385]? = some (Cond.code Lib.MathLoose.abs_long.x Lib.MathLoose.abs_long.code 2 (some .long)) := rfl
theorem vm_md12 : Cond.code Lib.MathLoose.abs_long.x Lib.MathLoose.abs_long.code 2 (some .long) ∈ vm_ws := List.mem_filter.mpr ⟨List.mem_of_getElem? vm_mc12, rfl⟩
