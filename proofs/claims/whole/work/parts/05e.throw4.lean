/-! NoSuchElementException: its constructor names its superclass's under another index than the library's chain has -/
def zNe : String := "java/util/NoSuchElementException"
def zNb : ByteArray := ⟨#[0x2a, 0x2b, 0xb7, 0x00, 0x0d, 0xb1]⟩
def zNw4 : List Cond := [.methodLink "TableMachine" 121 (Bundle.initS zNe), .instantiable zNe 6, .selects zNe Bundle.tFill0 Bundle.tFill0, .selects zNe Bundle.tFill Bundle.tFill,
   .lays zNe zTn2 "cause" "Ljava/lang/Throwable;", .lays zNe zTn2 "stackTrace" zSt2, .lays zNe zTn2 "suppressedExceptions" zLi2, .lays zNe zTn2 "detailMessage" "Ljava/lang/String;", .lays zNe zTn2 "backtrace" "Ljava/lang/Object;",
   .isRef (.static zTn2 "UNASSIGNED_STACK" zSt2), .isRef (.static zTn2 "SUPPRESSED_SENTINEL" zLi2), .fieldLink zTn2 198 zTn2 "backtrace" "Ljava/lang/Object;", .lays zTn2 zTn2 "backtrace" "Ljava/lang/Object;"]
set_option maxRecDepth 100000 in
theorem zNw_1 : Bundle.throwableAtoms.all zThW = true := by decide +kernel
set_option maxRecDepth 100000 in
theorem zNw_2 : Bundle.throwableSAtoms.all zThW = true := by decide +kernel
set_option maxRecDepth 100000 in
theorem zNw_3 : (Bundle.passSAtoms zNe "java/lang/RuntimeException" 13 zNb).all zThW = true := by decide +kernel
set_option maxRecDepth 100000 in
theorem zNw_5 : (Bundle.chainSAtoms "java/lang/RuntimeException" ["java/lang/Exception"]).all zThW = true := by decide +kernel
set_option maxRecDepth 100000 in
theorem zNw_4 : zNw4.all zThW = true := by decide +kernel
theorem zNb_0 : decode zNb 0 = .ok (.aload_n 0, 1) := by decide +kernel
theorem zNb_1 : decode zNb 1 = .ok (.aload_n 1, 1) := by decide +kernel
theorem zNb_2 : decode zNb 2 = .ok (.invokespecial 13, 3) := by decide +kernel
theorem zNb_5 : decode zNb 5 = .ok (.return_, 1) := by decide +kernel
