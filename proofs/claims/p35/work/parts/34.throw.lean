/-! throws: a method returns, or throws an exception by its class's name; memory as told -/
def nmX : List String := ["java/lang/RuntimeException", "java/lang/Exception"]
def eIO : String := "java/lang/IndexOutOfBoundsException"
def eIA : String := "java/lang/IllegalArgumentException"
def eIS : String := "java/lang/IllegalStateException"
theorem tw_165 : ∀ w ∈ Cond.classLink "Pathwarden" 165 eIO :: Cond.initialized eIO :: vx_atS "Pathwarden" 169 eIO nmX, w ∈ TB ∧ vx_ot w = true := by decide +kernel
theorem tw_178 : ∀ w ∈ Cond.classLink "Pathwarden" 178 eIA :: Cond.initialized eIA :: vx_atS "Pathwarden" 182 eIA nmX, w ∈ TB ∧ vx_ot w = true := by decide +kernel
theorem tw_81 : ∀ w ∈ Cond.classLink "Pathwarden" 81 eIS :: Cond.initialized eIS :: vx_atS "Pathwarden" 85 eIS nmX, w ∈ TB ∧ vx_ot w = true := by decide +kernel
