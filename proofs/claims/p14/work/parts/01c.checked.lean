theorem vm_chk2 {α : Type} {l : List α} {p : α → Bool} (n : Nat) (h1 : (l.take n).all p = true) (h2 : (l.drop n).all p = true) : l.all p = true := by
  rw [← List.take_append_drop n l, List.all_append, h1, h2]
  rfl
set_option maxRecDepth 100000 in
theorem vm_ok0_0 : ((vm_t0).take 48).all (vm_okE 0) = true := by decide +kernel
set_option maxRecDepth 100000 in
theorem vm_ok0_1 : (((vm_t0).drop 48).take 48).all (vm_okE 0) = true := by decide +kernel
set_option maxRecDepth 100000 in
theorem vm_ok0_2 : ((((vm_t0).drop 48).drop 48).take 48).all (vm_okE 0) = true := by decide +kernel
set_option maxRecDepth 100000 in
theorem vm_ok0_3 : (((((vm_t0).drop 48).drop 48).drop 48).take 48).all (vm_okE 0) = true := by decide +kernel
set_option maxRecDepth 100000 in
theorem vm_ok0_4 : ((((((vm_t0).drop 48).drop 48).drop 48).drop 48).take 48).all (vm_okE 0) = true := by decide +kernel
set_option maxRecDepth 100000 in
theorem vm_ok0_5 : (((((((vm_t0).drop 48).drop 48).drop 48).drop 48).drop 48).take 48).all (vm_okE 0) = true := by decide +kernel
set_option maxRecDepth 100000 in
theorem vm_ok0_6 : ((((((((vm_t0).drop 48).drop 48).drop 48).drop 48).drop 48).drop 48).take 48).all (vm_okE 0) = true := by decide +kernel
set_option maxRecDepth 100000 in
theorem vm_ok0_7 : (((((((((vm_t0).drop 48).drop 48).drop 48).drop 48).drop 48).drop 48).drop 48).take 48).all (vm_okE 0) = true := by decide +kernel
set_option maxRecDepth 100000 in
theorem vm_ok0_8 : ((((((((((vm_t0).drop 48).drop 48).drop 48).drop 48).drop 48).drop 48).drop 48).drop 48).take 48).all (vm_okE 0) = true := by decide +kernel
set_option maxRecDepth 100000 in
theorem vm_ok0_9 : (((((((((((vm_t0).drop 48).drop 48).drop 48).drop 48).drop 48).drop 48).drop 48).drop 48).drop 48).take 48).all (vm_okE 0) = true := by decide +kernel
set_option maxRecDepth 100000 in
theorem vm_ok0_10 : (((((((((((vm_t0).drop 48).drop 48).drop 48).drop 48).drop 48).drop 48).drop 48).drop 48).drop 48).drop 48).all (vm_okE 0) = true := by decide +kernel
theorem vm_ok0 : vm_t0.all (vm_okE 0) = true := vm_chk2 48 vm_ok0_0 (vm_chk2 48 vm_ok0_1 (vm_chk2 48 vm_ok0_2 (vm_chk2 48 vm_ok0_3 (vm_chk2 48 vm_ok0_4 (vm_chk2 48 vm_ok0_5 (vm_chk2 48 vm_ok0_6 (vm_chk2 48 vm_ok0_7 (vm_chk2 48 vm_ok0_8 (vm_chk2 48 vm_ok0_9 (vm_ok0_10))))))))))
set_option maxRecDepth 100000 in
theorem vm_ok1 : vm_t1.all (vm_okE 1) = true := by decide +kernel
set_option maxRecDepth 100000 in
theorem vm_ok2 : vm_t2.all (vm_okE 2) = true := by decide +kernel
set_option maxRecDepth 100000 in
theorem vm_ok3 : vm_t3.all (vm_okE 3) = true := by decide +kernel
set_option maxRecDepth 100000 in
theorem vm_ok4 : vm_t4.all (vm_okE 4) = true := by decide +kernel
set_option maxRecDepth 100000 in
theorem vm_ok5 : vm_t5.all (vm_okE 5) = true := by decide +kernel
set_option maxRecDepth 100000 in
theorem vm_ok6 : vm_t6.all (vm_okE 6) = true := by decide +kernel
set_option maxRecDepth 100000 in
theorem vm_ok7 : vm_t7.all (vm_okE 7) = true := by decide +kernel
set_option maxRecDepth 100000 in
theorem vm_ok8 : vm_t8.all (vm_okE 8) = true := by decide +kernel
set_option maxRecDepth 100000 in
theorem vm_ok9 : vm_t9.all (vm_okE 9) = true := by decide +kernel
set_option maxRecDepth 100000 in
theorem vm_ok10 : vm_t10.all (vm_okE 10) = true := by decide +kernel
set_option maxRecDepth 100000 in
theorem vm_ok11 : vm_t11.all (vm_okE 11) = true := by decide +kernel
set_option maxRecDepth 100000 in
theorem vm_ok12 : vm_t12.all (vm_okE 12) = true := by decide +kernel
set_option maxRecDepth 100000 in
theorem vm_ok13 : vm_t13.all (vm_okE 13) = true := by decide +kernel
set_option maxRecDepth 100000 in
theorem vm_ok14 : vm_t14.all (vm_okE 14) = true := by decide +kernel
set_option maxRecDepth 100000 in
theorem vm_ok15 : vm_t15.all (vm_okE 15) = true := by decide +kernel
set_option maxRecDepth 100000 in
theorem vm_ok16 : vm_t16.all (vm_okE 16) = true := by decide +kernel
set_option maxRecDepth 100000 in
theorem vm_ok17 : vm_t17.all (vm_okE 17) = true := by decide +kernel
set_option maxRecDepth 100000 in
theorem vm_ok18 : vm_t18.all (vm_okE 18) = true := by decide +kernel
set_option maxRecDepth 100000 in
theorem vm_ok19 : vm_t19.all (vm_okE 19) = true := by decide +kernel
set_option maxRecDepth 100000 in
theorem vm_ok20 : vm_t20.all (vm_okE 20) = true := by decide +kernel
set_option maxRecDepth 100000 in
theorem vm_ok21 : vm_t21.all (vm_okE 21) = true := by decide +kernel
set_option maxRecDepth 100000 in
theorem vm_ok22 : vm_t22.all (vm_okE 22) = true := by decide +kernel
set_option maxRecDepth 100000 in
theorem vm_ok23 : vm_t23.all (vm_okE 23) = true := by decide +kernel
set_option maxRecDepth 100000 in
theorem vm_ok24 : vm_t24.all (vm_okE 24) = true := by decide +kernel
set_option maxRecDepth 100000 in
theorem vm_ok25 : vm_t25.all (vm_okE 25) = true := by decide +kernel
set_option maxRecDepth 100000 in
theorem vm_ok26 : vm_t26.all (vm_okE 26) = true := by decide +kernel
set_option maxRecDepth 100000 in
theorem vm_ok27 : vm_t27.all (vm_okE 27) = true := by decide +kernel
set_option maxRecDepth 100000 in
theorem vm_ok28 : vm_t28.all (vm_okE 28) = true := by decide +kernel
set_option maxRecDepth 100000 in
theorem vm_ok29 : vm_t29.all (vm_okE 29) = true := by decide +kernel
set_option maxRecDepth 100000 in
theorem vm_ok30 : vm_t30.all (vm_okE 30) = true := by decide +kernel
set_option maxRecDepth 100000 in
theorem vm_ok31 : vm_t31.all (vm_okE 31) = true := by decide +kernel
set_option maxRecDepth 100000 in
theorem vm_ok32_0 : ((vm_t32).take 48).all (vm_okE 32) = true := by decide +kernel
set_option maxRecDepth 100000 in
theorem vm_ok32_1 : (((vm_t32).drop 48).take 48).all (vm_okE 32) = true := by decide +kernel
set_option maxRecDepth 100000 in
theorem vm_ok32_2 : (((vm_t32).drop 48).drop 48).all (vm_okE 32) = true := by decide +kernel
theorem vm_ok32 : vm_t32.all (vm_okE 32) = true := vm_chk2 48 vm_ok32_0 (vm_chk2 48 vm_ok32_1 (vm_ok32_2))
set_option maxRecDepth 100000 in
theorem vm_ok33_0 : ((vm_t33).take 48).all (vm_okE 33) = true := by decide +kernel
set_option maxRecDepth 100000 in
theorem vm_ok33_1 : (((vm_t33).drop 48).take 48).all (vm_okE 33) = true := by decide +kernel
set_option maxRecDepth 100000 in
theorem vm_ok33_2 : (((vm_t33).drop 48).drop 48).all (vm_okE 33) = true := by decide +kernel
theorem vm_ok33 : vm_t33.all (vm_okE 33) = true := vm_chk2 48 vm_ok33_0 (vm_chk2 48 vm_ok33_1 (vm_ok33_2))
set_option maxRecDepth 100000 in
theorem vm_ok34 : vm_t34.all (vm_okE 34) = true := by decide +kernel
set_option maxRecDepth 100000 in
theorem vm_ok35 : vm_t35.all (vm_okE 35) = true := by decide +kernel
set_option maxRecDepth 100000 in
theorem vm_ok36 : vm_t36.all (vm_okE 36) = true := by decide +kernel
set_option maxRecDepth 100000 in
theorem vm_ok37 : vm_t37.all (vm_okE 37) = true := by decide +kernel
set_option maxRecDepth 100000 in
theorem vm_ok38 : vm_t38.all (vm_okE 38) = true := by decide +kernel
set_option maxRecDepth 100000 in
theorem vm_ok39 : vm_t39.all (vm_okE 39) = true := by decide +kernel
set_option maxRecDepth 100000 in
theorem vm_ok40 : vm_t40.all (vm_okE 40) = true := by decide +kernel
set_option maxRecDepth 100000 in
theorem vm_ok41 : vm_t41.all (vm_okE 41) = true := by decide +kernel
set_option maxRecDepth 100000 in
theorem vm_ok42 : vm_t42.all (vm_okE 42) = true := by decide +kernel
set_option maxRecDepth 100000 in
theorem vm_ok43 : vm_t43.all (vm_okE 43) = true := by decide +kernel
set_option maxRecDepth 100000 in
theorem vm_ok44 : vm_t44.all (vm_okE 44) = true := by decide +kernel
set_option maxRecDepth 100000 in
theorem vm_ok45 : vm_t45.all (vm_okE 45) = true := by decide +kernel
set_option maxRecDepth 100000 in
theorem vm_ok46 : vm_t46.all (vm_okE 46) = true := by decide +kernel
set_option maxRecDepth 100000 in
theorem vm_ok47 : vm_t47.all (vm_okE 47) = true := by decide +kernel
set_option maxRecDepth 100000 in
theorem vm_ok48 : vm_t48.all (vm_okE 48) = true := by decide +kernel
set_option maxRecDepth 100000 in
theorem vm_ok49 : vm_t49.all (vm_okE 49) = true := by decide +kernel
set_option maxRecDepth 100000 in
theorem vm_ok50 : vm_t50.all (vm_okE 50) = true := by decide +kernel
set_option maxRecDepth 100000 in
theorem vm_ok51 : vm_t51.all (vm_okE 51) = true := by decide +kernel
set_option maxRecDepth 100000 in
theorem vm_ok52 : vm_t52.all (vm_okE 52) = true := by decide +kernel
set_option maxRecDepth 100000 in
theorem vm_ok53 : vm_t53.all (vm_okE 53) = true := by decide +kernel
set_option maxRecDepth 100000 in
theorem vm_ok54 : vm_t54.all (vm_okE 54) = true := by decide +kernel
set_option maxRecDepth 100000 in
theorem vm_ok55 : vm_t55.all (vm_okE 55) = true := by decide +kernel
set_option maxRecDepth 100000 in
theorem vm_ok56 : vm_t56.all (vm_okE 56) = true := by decide +kernel
set_option maxRecDepth 100000 in
theorem vm_ok57 : vm_t57.all (vm_okE 57) = true := by decide +kernel
set_option maxRecDepth 100000 in
theorem vm_ok58 : vm_t58.all (vm_okE 58) = true := by decide +kernel
set_option maxRecDepth 100000 in
theorem vm_ok59 : vm_t59.all (vm_okE 59) = true := by decide +kernel
set_option maxRecDepth 100000 in
theorem vm_ok60 : vm_t60.all (vm_okE 60) = true := by decide +kernel
set_option maxRecDepth 100000 in
theorem vm_ok61 : vm_t61.all (vm_okE 61) = true := by decide +kernel
set_option maxRecDepth 100000 in
theorem vm_ok62 : vm_t62.all (vm_okE 62) = true := by decide +kernel
set_option maxRecDepth 100000 in
theorem vm_ok63 : vm_t63.all (vm_okE 63) = true := by decide +kernel
set_option maxRecDepth 100000 in
theorem vm_ok64 : vm_t64.all (vm_okE 64) = true := by decide +kernel
set_option maxRecDepth 100000 in
theorem vm_ok65 : vm_t65.all (vm_okE 65) = true := by decide +kernel
set_option maxRecDepth 100000 in
theorem vm_ok66 : vm_t66.all (vm_okE 66) = true := by decide +kernel
set_option maxRecDepth 100000 in
theorem vm_ok67 : vm_t67.all (vm_okE 67) = true := by decide +kernel
set_option maxRecDepth 100000 in
theorem vm_ok68 : vm_t68.all (vm_okE 68) = true := by decide +kernel
set_option maxRecDepth 100000 in
theorem vm_ok69 : vm_t69.all (vm_okE 69) = true := by decide +kernel
set_option maxRecDepth 100000 in
theorem vm_ok70 : vm_t70.all (vm_okE 70) = true := by decide +kernel
set_option maxRecDepth 100000 in
theorem vm_ok71 : vm_t71.all (vm_okE 71) = true := by decide +kernel
set_option maxRecDepth 100000 in
theorem vm_ok72 : vm_t72.all (vm_okE 72) = true := by decide +kernel
set_option maxRecDepth 100000 in
theorem vm_ok73 : vm_t73.all (vm_okE 73) = true := by decide +kernel
set_option maxRecDepth 100000 in
theorem vm_ok74 : vm_t74.all (vm_okE 74) = true := by decide +kernel
set_option maxRecDepth 100000 in
theorem vm_ok75 : vm_t75.all (vm_okE 75) = true := by decide +kernel
set_option maxRecDepth 100000 in
theorem vm_ok76_0 : ((vm_t76).take 48).all (vm_okE 76) = true := by decide +kernel
set_option maxRecDepth 100000 in
theorem vm_ok76_1 : (((vm_t76).drop 48).take 48).all (vm_okE 76) = true := by decide +kernel
set_option maxRecDepth 100000 in
theorem vm_ok76_2 : (((vm_t76).drop 48).drop 48).all (vm_okE 76) = true := by decide +kernel
theorem vm_ok76 : vm_t76.all (vm_okE 76) = true := vm_chk2 48 vm_ok76_0 (vm_chk2 48 vm_ok76_1 (vm_ok76_2))
set_option maxRecDepth 100000 in
theorem vm_ok77 : vm_t77.all (vm_okE 77) = true := by decide +kernel
set_option maxRecDepth 100000 in
theorem vm_ok78 : vm_t78.all (vm_okE 78) = true := by decide +kernel
set_option maxRecDepth 100000 in
theorem vm_ok79 : vm_t79.all (vm_okE 79) = true := by decide +kernel
set_option maxRecDepth 100000 in
theorem vm_ok80_0 : ((vm_t80).take 48).all (vm_okE 80) = true := by decide +kernel
set_option maxRecDepth 100000 in
theorem vm_ok80_1 : ((vm_t80).drop 48).all (vm_okE 80) = true := by decide +kernel
theorem vm_ok80 : vm_t80.all (vm_okE 80) = true := vm_chk2 48 vm_ok80_0 (vm_ok80_1)
set_option maxRecDepth 100000 in
theorem vm_ok81 : vm_t81.all (vm_okE 81) = true := by decide +kernel
set_option maxRecDepth 100000 in
theorem vm_ok82 : vm_t82.all (vm_okE 82) = true := by decide +kernel
set_option maxRecDepth 100000 in
theorem vm_ok83 : vm_t83.all (vm_okE 83) = true := by decide +kernel
set_option maxRecDepth 100000 in
theorem vm_ok84 : vm_t84.all (vm_okE 84) = true := by decide +kernel
set_option maxRecDepth 100000 in
theorem vm_ok85 : vm_t85.all (vm_okE 85) = true := by decide +kernel
set_option maxRecDepth 100000 in
theorem vm_ok86 : vm_t86.all (vm_okE 86) = true := by decide +kernel
set_option maxRecDepth 100000 in
theorem vm_ok87 : vm_t87.all (vm_okE 87) = true := by decide +kernel
set_option maxRecDepth 100000 in
theorem vm_ok88 : vm_t88.all (vm_okE 88) = true := by decide +kernel
set_option maxRecDepth 100000 in
theorem vm_ok89 : vm_t89.all (vm_okE 89) = true := by decide +kernel
set_option maxRecDepth 100000 in
theorem vm_ok90_0 : ((vm_t90).take 48).all (vm_okE 90) = true := by decide +kernel
set_option maxRecDepth 100000 in
theorem vm_ok90_1 : ((vm_t90).drop 48).all (vm_okE 90) = true := by decide +kernel
theorem vm_ok90 : vm_t90.all (vm_okE 90) = true := vm_chk2 48 vm_ok90_0 (vm_ok90_1)
set_option maxRecDepth 100000 in
theorem vm_ok91_0 : ((vm_t91).take 48).all (vm_okE 91) = true := by decide +kernel
set_option maxRecDepth 100000 in
theorem vm_ok91_1 : (((vm_t91).drop 48).take 48).all (vm_okE 91) = true := by decide +kernel
set_option maxRecDepth 100000 in
theorem vm_ok91_2 : (((vm_t91).drop 48).drop 48).all (vm_okE 91) = true := by decide +kernel
theorem vm_ok91 : vm_t91.all (vm_okE 91) = true := vm_chk2 48 vm_ok91_0 (vm_chk2 48 vm_ok91_1 (vm_ok91_2))
set_option maxRecDepth 100000 in
theorem vm_ok92 : vm_t92.all (vm_okE 92) = true := by decide +kernel
set_option maxRecDepth 100000 in
theorem vm_ok93 : vm_t93.all (vm_okE 93) = true := by decide +kernel
set_option maxRecDepth 100000 in
theorem vm_ok94 : vm_t94.all (vm_okE 94) = true := by decide +kernel
set_option maxRecDepth 100000 in
theorem vm_ok95 : vm_t95.all (vm_okE 95) = true := by decide +kernel
set_option maxRecDepth 100000 in
theorem vm_ok96 : vm_t96.all (vm_okE 96) = true := by decide +kernel
set_option maxRecDepth 100000 in
theorem vm_ok97 : vm_t97.all (vm_okE 97) = true := by decide +kernel
set_option maxRecDepth 100000 in
theorem vm_ok98 : vm_t98.all (vm_okE 98) = true := by decide +kernel
set_option maxRecDepth 100000 in
theorem vm_ok99 : vm_t99.all (vm_okE 99) = true := by decide +kernel
set_option maxRecDepth 100000 in
theorem vm_ok100_0 : ((vm_t100).take 48).all (vm_okE 100) = true := by decide +kernel
set_option maxRecDepth 100000 in
theorem vm_ok100_1 : (((vm_t100).drop 48).take 48).all (vm_okE 100) = true := by decide +kernel
set_option maxRecDepth 100000 in
theorem vm_ok100_2 : (((vm_t100).drop 48).drop 48).all (vm_okE 100) = true := by decide +kernel
theorem vm_ok100 : vm_t100.all (vm_okE 100) = true := vm_chk2 48 vm_ok100_0 (vm_chk2 48 vm_ok100_1 (vm_ok100_2))
set_option maxRecDepth 100000 in
theorem vm_ok101 : vm_t101.all (vm_okE 101) = true := by decide +kernel
set_option maxRecDepth 100000 in
theorem vm_ok102_0 : ((vm_t102).take 48).all (vm_okE 102) = true := by decide +kernel
set_option maxRecDepth 100000 in
theorem vm_ok102_1 : (((vm_t102).drop 48).take 48).all (vm_okE 102) = true := by decide +kernel
set_option maxRecDepth 100000 in
theorem vm_ok102_2 : ((((vm_t102).drop 48).drop 48).take 48).all (vm_okE 102) = true := by decide +kernel
set_option maxRecDepth 100000 in
theorem vm_ok102_3 : ((((vm_t102).drop 48).drop 48).drop 48).all (vm_okE 102) = true := by decide +kernel
theorem vm_ok102 : vm_t102.all (vm_okE 102) = true := vm_chk2 48 vm_ok102_0 (vm_chk2 48 vm_ok102_1 (vm_chk2 48 vm_ok102_2 (vm_ok102_3)))
set_option maxRecDepth 100000 in
theorem vm_ok103 : vm_t103.all (vm_okE 103) = true := by decide +kernel
set_option maxRecDepth 100000 in
theorem vm_ok104_0 : ((vm_t104).take 48).all (vm_okE 104) = true := by decide +kernel
set_option maxRecDepth 100000 in
theorem vm_ok104_1 : (((vm_t104).drop 48).take 48).all (vm_okE 104) = true := by decide +kernel
set_option maxRecDepth 100000 in
theorem vm_ok104_2 : ((((vm_t104).drop 48).drop 48).take 48).all (vm_okE 104) = true := by decide +kernel
set_option maxRecDepth 100000 in
theorem vm_ok104_3 : ((((vm_t104).drop 48).drop 48).drop 48).all (vm_okE 104) = true := by decide +kernel
theorem vm_ok104 : vm_t104.all (vm_okE 104) = true := vm_chk2 48 vm_ok104_0 (vm_chk2 48 vm_ok104_1 (vm_chk2 48 vm_ok104_2 (vm_ok104_3)))
set_option maxRecDepth 100000 in
theorem vm_ok105 : vm_t105.all (vm_okE 105) = true := by decide +kernel
set_option maxRecDepth 100000 in
theorem vm_ok106 : vm_t106.all (vm_okE 106) = true := by decide +kernel
set_option maxRecDepth 100000 in
theorem vm_ok107 : vm_t107.all (vm_okE 107) = true := by decide +kernel
set_option maxRecDepth 100000 in
theorem vm_ok108_0 : ((vm_t108).take 48).all (vm_okE 108) = true := by decide +kernel
set_option maxRecDepth 100000 in
theorem vm_ok108_1 : (((vm_t108).drop 48).take 48).all (vm_okE 108) = true := by decide +kernel
set_option maxRecDepth 100000 in
theorem vm_ok108_2 : ((((vm_t108).drop 48).drop 48).take 48).all (vm_okE 108) = true := by decide +kernel
set_option maxRecDepth 100000 in
theorem vm_ok108_3 : (((((vm_t108).drop 48).drop 48).drop 48).take 48).all (vm_okE 108) = true := by decide +kernel
set_option maxRecDepth 100000 in
theorem vm_ok108_4 : (((((vm_t108).drop 48).drop 48).drop 48).drop 48).all (vm_okE 108) = true := by decide +kernel
theorem vm_ok108 : vm_t108.all (vm_okE 108) = true := vm_chk2 48 vm_ok108_0 (vm_chk2 48 vm_ok108_1 (vm_chk2 48 vm_ok108_2 (vm_chk2 48 vm_ok108_3 (vm_ok108_4))))
set_option maxRecDepth 100000 in
theorem vm_ok109 : vm_t109.all (vm_okE 109) = true := by decide +kernel
set_option maxRecDepth 100000 in
theorem vm_ok110 : vm_t110.all (vm_okE 110) = true := by decide +kernel
set_option maxRecDepth 100000 in
theorem vm_ok111 : vm_t111.all (vm_okE 111) = true := by decide +kernel
set_option maxRecDepth 100000 in
theorem vm_ok112 : vm_t112.all (vm_okE 112) = true := by decide +kernel
set_option maxRecDepth 100000 in
theorem vm_ok113 : vm_t113.all (vm_okE 113) = true := by decide +kernel
set_option maxRecDepth 100000 in
theorem vm_ok114 : vm_t114.all (vm_okE 114) = true := by decide +kernel
set_option maxRecDepth 100000 in
theorem vm_ok115 : vm_t115.all (vm_okE 115) = true := by decide +kernel
set_option maxRecDepth 100000 in
theorem vm_ok116 : vm_t116.all (vm_okE 116) = true := by decide +kernel
set_option maxRecDepth 100000 in
theorem vm_ok117 : vm_t117.all (vm_okE 117) = true := by decide +kernel
set_option maxRecDepth 100000 in
theorem vm_ok118 : vm_t118.all (vm_okE 118) = true := by decide +kernel
set_option maxRecDepth 100000 in
theorem vm_ok119 : vm_t119.all (vm_okE 119) = true := by decide +kernel
set_option maxRecDepth 100000 in
theorem vm_ok120 : vm_t120.all (vm_okE 120) = true := by decide +kernel
set_option maxRecDepth 100000 in
theorem vm_ok121_0 : ((vm_t121).take 48).all (vm_okE 121) = true := by decide +kernel
set_option maxRecDepth 100000 in
theorem vm_ok121_1 : (((vm_t121).drop 48).take 48).all (vm_okE 121) = true := by decide +kernel
set_option maxRecDepth 100000 in
theorem vm_ok121_2 : (((vm_t121).drop 48).drop 48).all (vm_okE 121) = true := by decide +kernel
theorem vm_ok121 : vm_t121.all (vm_okE 121) = true := vm_chk2 48 vm_ok121_0 (vm_chk2 48 vm_ok121_1 (vm_ok121_2))
set_option maxRecDepth 100000 in
theorem vm_ok122 : vm_t122.all (vm_okE 122) = true := by decide +kernel
set_option maxRecDepth 100000 in
theorem vm_ok123 : vm_t123.all (vm_okE 123) = true := by decide +kernel
set_option maxRecDepth 100000 in
theorem vm_ok124 : vm_t124.all (vm_okE 124) = true := by decide +kernel
theorem vm_okT : ∀ k : Nat, (vm_tab k).all (vm_okE k) = true := by
  intro k
  match k with
  | 0 => exact vm_ok0
  | 1 => exact vm_ok1
  | 2 => exact vm_ok2
  | 3 => exact vm_ok3
  | 4 => exact vm_ok4
  | 5 => exact vm_ok5
  | 6 => exact vm_ok6
  | 7 => exact vm_ok7
  | 8 => exact vm_ok8
  | 9 => exact vm_ok9
  | 10 => exact vm_ok10
  | 11 => exact vm_ok11
  | 12 => exact vm_ok12
  | 13 => exact vm_ok13
  | 14 => exact vm_ok14
  | 15 => exact vm_ok15
  | 16 => exact vm_ok16
  | 17 => exact vm_ok17
  | 18 => exact vm_ok18
  | 19 => exact vm_ok19
  | 20 => exact vm_ok20
  | 21 => exact vm_ok21
  | 22 => exact vm_ok22
  | 23 => exact vm_ok23
  | 24 => exact vm_ok24
  | 25 => exact vm_ok25
  | 26 => exact vm_ok26
  | 27 => exact vm_ok27
  | 28 => exact vm_ok28
  | 29 => exact vm_ok29
  | 30 => exact vm_ok30
  | 31 => exact vm_ok31
  | 32 => exact vm_ok32
  | 33 => exact vm_ok33
  | 34 => exact vm_ok34
  | 35 => exact vm_ok35
  | 36 => exact vm_ok36
  | 37 => exact vm_ok37
  | 38 => exact vm_ok38
  | 39 => exact vm_ok39
  | 40 => exact vm_ok40
  | 41 => exact vm_ok41
  | 42 => exact vm_ok42
  | 43 => exact vm_ok43
  | 44 => exact vm_ok44
  | 45 => exact vm_ok45
  | 46 => exact vm_ok46
  | 47 => exact vm_ok47
  | 48 => exact vm_ok48
  | 49 => exact vm_ok49
  | 50 => exact vm_ok50
  | 51 => exact vm_ok51
  | 52 => exact vm_ok52
  | 53 => exact vm_ok53
  | 54 => exact vm_ok54
  | 55 => exact vm_ok55
  | 56 => exact vm_ok56
  | 57 => exact vm_ok57
  | 58 => exact vm_ok58
  | 59 => exact vm_ok59
  | 60 => exact vm_ok60
  | 61 => exact vm_ok61
  | 62 => exact vm_ok62
  | 63 => exact vm_ok63
  | 64 => exact vm_ok64
  | 65 => exact vm_ok65
  | 66 => exact vm_ok66
  | 67 => exact vm_ok67
  | 68 => exact vm_ok68
  | 69 => exact vm_ok69
  | 70 => exact vm_ok70
  | 71 => exact vm_ok71
  | 72 => exact vm_ok72
  | 73 => exact vm_ok73
  | 74 => exact vm_ok74
  | 75 => exact vm_ok75
  | 76 => exact vm_ok76
  | 77 => exact vm_ok77
  | 78 => exact vm_ok78
  | 79 => exact vm_ok79
  | 80 => exact vm_ok80
  | 81 => exact vm_ok81
  | 82 => exact vm_ok82
  | 83 => exact vm_ok83
  | 84 => exact vm_ok84
  | 85 => exact vm_ok85
  | 86 => exact vm_ok86
  | 87 => exact vm_ok87
  | 88 => exact vm_ok88
  | 89 => exact vm_ok89
  | 90 => exact vm_ok90
  | 91 => exact vm_ok91
  | 92 => exact vm_ok92
  | 93 => exact vm_ok93
  | 94 => exact vm_ok94
  | 95 => exact vm_ok95
  | 96 => exact vm_ok96
  | 97 => exact vm_ok97
  | 98 => exact vm_ok98
  | 99 => exact vm_ok99
  | 100 => exact vm_ok100
  | 101 => exact vm_ok101
  | 102 => exact vm_ok102
  | 103 => exact vm_ok103
  | 104 => exact vm_ok104
  | 105 => exact vm_ok105
  | 106 => exact vm_ok106
  | 107 => exact vm_ok107
  | 108 => exact vm_ok108
  | 109 => exact vm_ok109
  | 110 => exact vm_ok110
  | 111 => exact vm_ok111
  | 112 => exact vm_ok112
  | 113 => exact vm_ok113
  | 114 => exact vm_ok114
  | 115 => exact vm_ok115
  | 116 => exact vm_ok116
  | 117 => exact vm_ok117
  | 118 => exact vm_ok118
  | 119 => exact vm_ok119
  | 120 => exact vm_ok120
  | 121 => exact vm_ok121
  | 122 => exact vm_ok122
  | 123 => exact vm_ok123
  | 124 => exact vm_ok124
  | n + 125 => rfl
