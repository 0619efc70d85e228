theorem gTh_305_309 : gTh RX6 305 309 "java/lang/IndexOutOfBoundsException" := ⟨w258, w11, by decide +kernel, Or.inl ⟨gUin (by decide +kernel), by decide +kernel, by decide +kernel⟩⟩
theorem gTh_314_318 : gTh RX6 314 318 "java/lang/IllegalArgumentException" := ⟨w329, w14, by decide +kernel, Or.inl ⟨gUin (by decide +kernel), by decide +kernel, by decide +kernel⟩⟩
theorem gTh_320_324 : gTh RX6 320 324 "java/lang/IllegalStateException" := ⟨w345, w15, by decide +kernel, Or.inl ⟨gUin (by decide +kernel), by decide +kernel, by decide +kernel⟩⟩
theorem gTh_165_169 : gTh RX6 165 169 "java/util/NoSuchElementException" := ⟨w361, w16, by decide +kernel, Or.inr ⟨gUin (by decide +kernel), by decide +kernel, by decide +kernel⟩⟩
theorem gTh_273_275 : gTh RX6 273 275 "java/lang/ArithmeticException" := ⟨w812, w33, by decide +kernel, Or.inl ⟨gUin (by decide +kernel), by decide +kernel, by decide +kernel⟩⟩
