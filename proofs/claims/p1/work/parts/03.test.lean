theorem zt1 : (vx_atS RX5 299 "java/lang/IndexOutOfBoundsException" ["java/lang/RuntimeException", "java/lang/Exception"]).filter (fun w => !goodWord w) = [] := by decide +kernel
theorem zt2 : (Cond.castable "a" "b").onTables = true := by decide
theorem zt3 : goodWord (Cond.castable "a" "b") = true := by decide
theorem zt7 : (Cond.fieldLinkNest "a" 1 "b" "c" "d" "e").onTables = true := by decide
theorem zt8 : (Cond.laysStatic "a" "b" "c").onTables = true := by decide
