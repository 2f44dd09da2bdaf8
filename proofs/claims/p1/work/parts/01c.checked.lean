set_option maxRecDepth 100000 in
theorem vm_ok0 : vm_t0.all (vm_okE 0) = true := by decide +kernel
set_option maxRecDepth 100000 in
theorem vm_ok1 : vm_t1.all (vm_okE 1) = true := by decide +kernel
set_option maxRecDepth 100000 in
theorem vm_ok2 : vm_t2.all (vm_okE 2) = true := by decide +kernel
set_option maxRecDepth 100000 in
theorem vm_ok3 : vm_t3.all (vm_okE 3) = true := by decide +kernel
set_option maxRecDepth 100000 in
theorem vm_ok4 : vm_t4.all (vm_okE 4) = true := by decide +kernel
set_option maxRecDepth 100000 in
theorem vm_ok5 : vm_t5.all (vm_okE 5) = true := by decide +kernel
set_option maxRecDepth 100000 in
theorem vm_ok6 : vm_t6.all (vm_okE 6) = true := by decide +kernel
set_option maxRecDepth 100000 in
theorem vm_ok7 : vm_t7.all (vm_okE 7) = true := by decide +kernel
set_option maxRecDepth 100000 in
theorem vm_ok8 : vm_t8.all (vm_okE 8) = true := by decide +kernel
set_option maxRecDepth 100000 in
theorem vm_ok9 : vm_t9.all (vm_okE 9) = true := by decide +kernel
set_option maxRecDepth 100000 in
theorem vm_ok10 : vm_t10.all (vm_okE 10) = true := by decide +kernel
set_option maxRecDepth 100000 in
theorem vm_ok11 : vm_t11.all (vm_okE 11) = true := by decide +kernel
set_option maxRecDepth 100000 in
theorem vm_ok12 : vm_t12.all (vm_okE 12) = true := by decide +kernel
set_option maxRecDepth 100000 in
theorem vm_ok13 : vm_t13.all (vm_okE 13) = true := by decide +kernel
set_option maxRecDepth 100000 in
theorem vm_ok14 : vm_t14.all (vm_okE 14) = true := by decide +kernel
set_option maxRecDepth 100000 in
theorem vm_ok15 : vm_t15.all (vm_okE 15) = true := by decide +kernel
set_option maxRecDepth 100000 in
theorem vm_ok16 : vm_t16.all (vm_okE 16) = true := by decide +kernel
set_option maxRecDepth 100000 in
theorem vm_ok17 : vm_t17.all (vm_okE 17) = true := by decide +kernel
set_option maxRecDepth 100000 in
theorem vm_ok18 : vm_t18.all (vm_okE 18) = true := by decide +kernel
set_option maxRecDepth 100000 in
theorem vm_ok19 : vm_t19.all (vm_okE 19) = true := by decide +kernel
set_option maxRecDepth 100000 in
theorem vm_ok20 : vm_t20.all (vm_okE 20) = true := by decide +kernel
set_option maxRecDepth 100000 in
theorem vm_ok21 : vm_t21.all (vm_okE 21) = true := by decide +kernel
set_option maxRecDepth 100000 in
theorem vm_ok22 : vm_t22.all (vm_okE 22) = true := by decide +kernel
set_option maxRecDepth 100000 in
theorem vm_ok23 : vm_t23.all (vm_okE 23) = true := by decide +kernel
set_option maxRecDepth 100000 in
theorem vm_ok24 : vm_t24.all (vm_okE 24) = true := by decide +kernel
set_option maxRecDepth 100000 in
theorem vm_ok25 : vm_t25.all (vm_okE 25) = true := by decide +kernel
set_option maxRecDepth 100000 in
theorem vm_ok26 : vm_t26.all (vm_okE 26) = true := by decide +kernel
set_option maxRecDepth 100000 in
theorem vm_ok27 : vm_t27.all (vm_okE 27) = true := by decide +kernel
set_option maxRecDepth 100000 in
theorem vm_ok28 : vm_t28.all (vm_okE 28) = true := by decide +kernel
set_option maxRecDepth 100000 in
theorem vm_ok29 : vm_t29.all (vm_okE 29) = true := by decide +kernel
set_option maxRecDepth 100000 in
theorem vm_ok30 : vm_t30.all (vm_okE 30) = true := by decide +kernel
set_option maxRecDepth 100000 in
theorem vm_ok31 : vm_t31.all (vm_okE 31) = true := by decide +kernel
set_option maxRecDepth 100000 in
theorem vm_ok32 : vm_t32.all (vm_okE 32) = true := by decide +kernel
set_option maxRecDepth 100000 in
theorem vm_ok33 : vm_t33.all (vm_okE 33) = true := by decide +kernel
set_option maxRecDepth 100000 in
theorem vm_ok34 : vm_t34.all (vm_okE 34) = true := by decide +kernel
set_option maxRecDepth 100000 in
theorem vm_ok35 : vm_t35.all (vm_okE 35) = true := by decide +kernel
set_option maxRecDepth 100000 in
theorem vm_ok36 : vm_t36.all (vm_okE 36) = true := by decide +kernel
set_option maxRecDepth 100000 in
theorem vm_ok37 : vm_t37.all (vm_okE 37) = true := by decide +kernel
set_option maxRecDepth 100000 in
theorem vm_ok38 : vm_t38.all (vm_okE 38) = true := by decide +kernel
set_option maxRecDepth 100000 in
theorem vm_ok39 : vm_t39.all (vm_okE 39) = true := by decide +kernel
set_option maxRecDepth 100000 in
theorem vm_ok40 : vm_t40.all (vm_okE 40) = true := by decide +kernel
set_option maxRecDepth 100000 in
theorem vm_ok41 : vm_t41.all (vm_okE 41) = true := by decide +kernel
set_option maxRecDepth 100000 in
theorem vm_ok42 : vm_t42.all (vm_okE 42) = true := by decide +kernel
set_option maxRecDepth 100000 in
theorem vm_ok43 : vm_t43.all (vm_okE 43) = true := by decide +kernel
set_option maxRecDepth 100000 in
theorem vm_ok44 : vm_t44.all (vm_okE 44) = true := by decide +kernel
set_option maxRecDepth 100000 in
theorem vm_ok45 : vm_t45.all (vm_okE 45) = true := by decide +kernel
set_option maxRecDepth 100000 in
theorem vm_ok46 : vm_t46.all (vm_okE 46) = true := by decide +kernel
set_option maxRecDepth 100000 in
theorem vm_ok47 : vm_t47.all (vm_okE 47) = true := by decide +kernel
set_option maxRecDepth 100000 in
theorem vm_ok48 : vm_t48.all (vm_okE 48) = true := by decide +kernel
set_option maxRecDepth 100000 in
theorem vm_ok49 : vm_t49.all (vm_okE 49) = true := by decide +kernel
set_option maxRecDepth 100000 in
theorem vm_ok50 : vm_t50.all (vm_okE 50) = true := by decide +kernel
set_option maxRecDepth 100000 in
theorem vm_ok51 : vm_t51.all (vm_okE 51) = true := by decide +kernel
set_option maxRecDepth 100000 in
theorem vm_ok52 : vm_t52.all (vm_okE 52) = true := by decide +kernel
set_option maxRecDepth 100000 in
theorem vm_ok53 : vm_t53.all (vm_okE 53) = true := by decide +kernel
set_option maxRecDepth 100000 in
theorem vm_ok54 : vm_t54.all (vm_okE 54) = true := by decide +kernel
set_option maxRecDepth 100000 in
theorem vm_ok55 : vm_t55.all (vm_okE 55) = true := by decide +kernel
set_option maxRecDepth 100000 in
theorem vm_ok56 : vm_t56.all (vm_okE 56) = true := by decide +kernel
theorem vm_okT : ∀ k : Nat, (vm_tab k).all (vm_okE k) = true := by
  intro k
  match k with
  | 0 => exact vm_ok0
  | 1 => exact vm_ok1
  | 2 => exact vm_ok2
  | 3 => exact vm_ok3
  | 4 => exact vm_ok4
  | 5 => exact vm_ok5
  | 6 => exact vm_ok6
  | 7 => exact vm_ok7
  | 8 => exact vm_ok8
  | 9 => exact vm_ok9
  | 10 => exact vm_ok10
  | 11 => exact vm_ok11
  | 12 => exact vm_ok12
  | 13 => exact vm_ok13
  | 14 => exact vm_ok14
  | 15 => exact vm_ok15
  | 16 => exact vm_ok16
  | 17 => exact vm_ok17
  | 18 => exact vm_ok18
  | 19 => exact vm_ok19
  | 20 => exact vm_ok20
  | 21 => exact vm_ok21
  | 22 => exact vm_ok22
  | 23 => exact vm_ok23
  | 24 => exact vm_ok24
  | 25 => exact vm_ok25
  | 26 => exact vm_ok26
  | 27 => exact vm_ok27
  | 28 => exact vm_ok28
  | 29 => exact vm_ok29
  | 30 => exact vm_ok30
  | 31 => exact vm_ok31
  | 32 => exact vm_ok32
  | 33 => exact vm_ok33
  | 34 => exact vm_ok34
  | 35 => exact vm_ok35
  | 36 => exact vm_ok36
  | 37 => exact vm_ok37
  | 38 => exact vm_ok38
  | 39 => exact vm_ok39
  | 40 => exact vm_ok40
  | 41 => exact vm_ok41
  | 42 => exact vm_ok42
  | 43 => exact vm_ok43
  | 44 => exact vm_ok44
  | 45 => exact vm_ok45
  | 46 => exact vm_ok46
  | 47 => exact vm_ok47
  | 48 => exact vm_ok48
  | 49 => exact vm_ok49
  | 50 => exact vm_ok50
  | 51 => exact vm_ok51
  | 52 => exact vm_ok52
  | 53 => exact vm_ok53
  | 54 => exact vm_ok54
  | 55 => exact vm_ok55
  | 56 => exact vm_ok56
  | n + 57 => rfl
