theorem gTh_302_306 : gTh RX6 302 306 "java/lang/IndexOutOfBoundsException" := ⟨w536, w12, by decide +kernel, Or.inl ⟨gUin (by decide +kernel), by decide +kernel, by decide +kernel⟩⟩
theorem gTh_311_315 : gTh RX6 311 315 "java/lang/IllegalArgumentException" := ⟨w549, w15, by decide +kernel, Or.inl ⟨gUin (by decide +kernel), by decide +kernel, by decide +kernel⟩⟩
theorem gTh_317_321 : gTh RX6 317 321 "java/lang/IllegalStateException" := ⟨w565, w16, by decide +kernel, Or.inl ⟨gUin (by decide +kernel), by decide +kernel, by decide +kernel⟩⟩
theorem gTh_165_169 : gTh RX6 165 169 "java/util/NoSuchElementException" := ⟨w581, w17, by decide +kernel, Or.inr ⟨gUin (by decide +kernel), by decide +kernel, by decide +kernel⟩⟩
theorem gTh_273_275 : gTh RX6 273 275 "java/lang/ArithmeticException" := ⟨w1041, w20, by decide +kernel, Or.inl ⟨gUin (by decide +kernel), by decide +kernel, by decide +kernel⟩⟩
