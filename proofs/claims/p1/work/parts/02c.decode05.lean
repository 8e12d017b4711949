theorem dL_law_3128 : decode cL_law 3128 = .ok (.istore 6, 2) := by decide +kernel
theorem dL_law_3130 : decode cL_law 3130 = .ok (.aload_n 2, 1) := by decide +kernel
theorem dL_law_3131 : decode cL_law 3131 = .ok (.invokevirtual 192, 3) := by decide +kernel
theorem dL_law_3134 : decode cL_law 3134 = .ok (.iload 5, 2) := by decide +kernel
theorem dL_law_3136 : decode cL_law 3136 = .ok (.if_icmp .eq 5, 3) := by decide +kernel
theorem dL_law_3141 : decode cL_law 3141 = .ok (.iload 5, 2) := by decide +kernel
theorem dL_law_3143 : decode cL_law 3143 = .ok (.ifCond .ne 15, 3) := by decide +kernel
theorem dL_law_3158 : decode cL_law 3158 = .ok (.goto 755, 3) := by decide +kernel
theorem dL_law_3161 : decode cL_law 3161 = .ok (.aload_n 1, 1) := by decide +kernel
theorem dL_law_3162 : decode cL_law 3162 = .ok (.aload_n 0, 1) := by decide +kernel
theorem dL_law_3163 : decode cL_law 3163 = .ok (.iload 4, 2) := by decide +kernel
theorem dL_law_3165 : decode cL_law 3165 = .ok (.iconst 1, 1) := by decide +kernel
theorem dL_law_3166 : decode cL_law 3166 = .ok (.iadd, 1) := by decide +kernel
theorem dL_law_3167 : decode cL_law 3167 = .ok (.iaload, 1) := by decide +kernel
theorem dL_law_3168 : decode cL_law 3168 = .ok (.aload_n 3, 1) := by decide +kernel
theorem dL_law_3169 : decode cL_law 3169 = .ok (.invokestatic 321, 3) := by decide +kernel
theorem dL_law_3172 : decode cL_law 3172 = .ok (.istore 5, 2) := by decide +kernel
theorem dL_law_3174 : decode cL_law 3174 = .ok (.aload_n 2, 1) := by decide +kernel
theorem dL_law_3175 : decode cL_law 3175 = .ok (.aload_n 0, 1) := by decide +kernel
theorem dL_law_3176 : decode cL_law 3176 = .ok (.iload 4, 2) := by decide +kernel
theorem dL_law_3178 : decode cL_law 3178 = .ok (.iconst 1, 1) := by decide +kernel
theorem dL_law_3179 : decode cL_law 3179 = .ok (.iadd, 1) := by decide +kernel
theorem dL_law_3180 : decode cL_law 3180 = .ok (.iaload, 1) := by decide +kernel
theorem dL_law_3181 : decode cL_law 3181 = .ok (.invokevirtual 323, 3) := by decide +kernel
theorem dL_law_3184 : decode cL_law 3184 = .ok (.istore 6, 2) := by decide +kernel
theorem dL_law_3186 : decode cL_law 3186 = .ok (.aload_n 2, 1) := by decide +kernel
theorem dL_law_3187 : decode cL_law 3187 = .ok (.invokevirtual 192, 3) := by decide +kernel
theorem dL_law_3190 : decode cL_law 3190 = .ok (.iload 5, 2) := by decide +kernel
theorem dL_law_3192 : decode cL_law 3192 = .ok (.if_icmp .eq 5, 3) := by decide +kernel
theorem dL_law_3197 : decode cL_law 3197 = .ok (.iload 5, 2) := by decide +kernel
theorem dL_law_3199 : decode cL_law 3199 = .ok (.ifCond .ne 15, 3) := by decide +kernel
theorem dL_law_3214 : decode cL_law 3214 = .ok (.goto 699, 3) := by decide +kernel
theorem dL_law_3217 : decode cL_law 3217 = .ok (.aload_n 1, 1) := by decide +kernel
theorem dL_law_3218 : decode cL_law 3218 = .ok (.aload_n 0, 1) := by decide +kernel
theorem dL_law_3219 : decode cL_law 3219 = .ok (.iload 4, 2) := by decide +kernel
theorem dL_law_3221 : decode cL_law 3221 = .ok (.iconst 1, 1) := by decide +kernel
theorem dL_law_3222 : decode cL_law 3222 = .ok (.iadd, 1) := by decide +kernel
theorem dL_law_3223 : decode cL_law 3223 = .ok (.iaload, 1) := by decide +kernel
theorem dL_law_3224 : decode cL_law 3224 = .ok (.aload_n 3, 1) := by decide +kernel
theorem dL_law_3225 : decode cL_law 3225 = .ok (.invokestatic 324, 3) := by decide +kernel
theorem dL_law_3228 : decode cL_law 3228 = .ok (.istore 5, 2) := by decide +kernel
theorem dL_law_3230 : decode cL_law 3230 = .ok (.aload_n 2, 1) := by decide +kernel
theorem dL_law_3231 : decode cL_law 3231 = .ok (.aload_n 0, 1) := by decide +kernel
theorem dL_law_3232 : decode cL_law 3232 = .ok (.iload 4, 2) := by decide +kernel
theorem dL_law_3234 : decode cL_law 3234 = .ok (.iconst 1, 1) := by decide +kernel
theorem dL_law_3235 : decode cL_law 3235 = .ok (.iadd, 1) := by decide +kernel
theorem dL_law_3236 : decode cL_law 3236 = .ok (.iaload, 1) := by decide +kernel
theorem dL_law_3237 : decode cL_law 3237 = .ok (.invokevirtual 326, 3) := by decide +kernel
theorem dL_law_3240 : decode cL_law 3240 = .ok (.istore 6, 2) := by decide +kernel
theorem dL_law_3242 : decode cL_law 3242 = .ok (.aload_n 2, 1) := by decide +kernel
theorem dL_law_3243 : decode cL_law 3243 = .ok (.invokevirtual 192, 3) := by decide +kernel
theorem dL_law_3246 : decode cL_law 3246 = .ok (.iload 5, 2) := by decide +kernel
theorem dL_law_3248 : decode cL_law 3248 = .ok (.if_icmp .eq 5, 3) := by decide +kernel
theorem dL_law_3253 : decode cL_law 3253 = .ok (.iload 5, 2) := by decide +kernel
theorem dL_law_3255 : decode cL_law 3255 = .ok (.ifCond .ne 15, 3) := by decide +kernel
theorem dL_law_3270 : decode cL_law 3270 = .ok (.goto 643, 3) := by decide +kernel
theorem dL_law_3273 : decode cL_law 3273 = .ok (.aload_n 1, 1) := by decide +kernel
theorem dL_law_3274 : decode cL_law 3274 = .ok (.aload_n 0, 1) := by decide +kernel
theorem dL_law_3275 : decode cL_law 3275 = .ok (.iload 4, 2) := by decide +kernel
theorem dL_law_3277 : decode cL_law 3277 = .ok (.iconst 1, 1) := by decide +kernel
theorem dL_law_3278 : decode cL_law 3278 = .ok (.iadd, 1) := by decide +kernel
theorem dL_law_3279 : decode cL_law 3279 = .ok (.iaload, 1) := by decide +kernel
theorem dL_law_3280 : decode cL_law 3280 = .ok (.aload_n 3, 1) := by decide +kernel
theorem dL_law_3281 : decode cL_law 3281 = .ok (.invokestatic 327, 3) := by decide +kernel
theorem dL_law_3284 : decode cL_law 3284 = .ok (.istore 5, 2) := by decide +kernel
theorem dL_law_3286 : decode cL_law 3286 = .ok (.aload_n 2, 1) := by decide +kernel
theorem dL_law_3287 : decode cL_law 3287 = .ok (.aload_n 0, 1) := by decide +kernel
theorem dL_law_3288 : decode cL_law 3288 = .ok (.iload 4, 2) := by decide +kernel
theorem dL_law_3290 : decode cL_law 3290 = .ok (.iconst 1, 1) := by decide +kernel
theorem dL_law_3291 : decode cL_law 3291 = .ok (.iadd, 1) := by decide +kernel
theorem dL_law_3292 : decode cL_law 3292 = .ok (.iaload, 1) := by decide +kernel
theorem dL_law_3293 : decode cL_law 3293 = .ok (.invokevirtual 329, 3) := by decide +kernel
theorem dL_law_3296 : decode cL_law 3296 = .ok (.istore 6, 2) := by decide +kernel
theorem dL_law_3298 : decode cL_law 3298 = .ok (.aload_n 2, 1) := by decide +kernel
theorem dL_law_3299 : decode cL_law 3299 = .ok (.invokevirtual 192, 3) := by decide +kernel
theorem dL_law_3302 : decode cL_law 3302 = .ok (.iload 5, 2) := by decide +kernel
theorem dL_law_3304 : decode cL_law 3304 = .ok (.if_icmp .eq 5, 3) := by decide +kernel
theorem dL_law_3309 : decode cL_law 3309 = .ok (.iload 5, 2) := by decide +kernel
theorem dL_law_3311 : decode cL_law 3311 = .ok (.ifCond .ne 15, 3) := by decide +kernel
theorem dL_law_3326 : decode cL_law 3326 = .ok (.goto 587, 3) := by decide +kernel
theorem dL_law_3329 : decode cL_law 3329 = .ok (.aload_n 1, 1) := by decide +kernel
theorem dL_law_3330 : decode cL_law 3330 = .ok (.aload_n 0, 1) := by decide +kernel
theorem dL_law_3331 : decode cL_law 3331 = .ok (.iload 4, 2) := by decide +kernel
theorem dL_law_3333 : decode cL_law 3333 = .ok (.iconst 1, 1) := by decide +kernel
theorem dL_law_3334 : decode cL_law 3334 = .ok (.iadd, 1) := by decide +kernel
theorem dL_law_3335 : decode cL_law 3335 = .ok (.iaload, 1) := by decide +kernel
theorem dL_law_3336 : decode cL_law 3336 = .ok (.aload_n 0, 1) := by decide +kernel
theorem dL_law_3337 : decode cL_law 3337 = .ok (.iload 4, 2) := by decide +kernel
theorem dL_law_3339 : decode cL_law 3339 = .ok (.iconst 2, 1) := by decide +kernel
theorem dL_law_3340 : decode cL_law 3340 = .ok (.iadd, 1) := by decide +kernel
theorem dL_law_3341 : decode cL_law 3341 = .ok (.iaload, 1) := by decide +kernel
theorem dL_law_3342 : decode cL_law 3342 = .ok (.aload_n 3, 1) := by decide +kernel
theorem dL_law_3343 : decode cL_law 3343 = .ok (.invokestatic 330, 3) := by decide +kernel
theorem dL_law_3346 : decode cL_law 3346 = .ok (.istore 5, 2) := by decide +kernel
theorem dL_law_3348 : decode cL_law 3348 = .ok (.aload_n 2, 1) := by decide +kernel
theorem dL_law_3349 : decode cL_law 3349 = .ok (.aload_n 0, 1) := by decide +kernel
theorem dL_law_3350 : decode cL_law 3350 = .ok (.iload 4, 2) := by decide +kernel
theorem dL_law_3352 : decode cL_law 3352 = .ok (.iconst 1, 1) := by decide +kernel
theorem dL_law_3353 : decode cL_law 3353 = .ok (.iadd, 1) := by decide +kernel
theorem dL_law_3354 : decode cL_law 3354 = .ok (.iaload, 1) := by decide +kernel
theorem dL_law_3355 : decode cL_law 3355 = .ok (.aload_n 0, 1) := by decide +kernel
theorem dL_law_3356 : decode cL_law 3356 = .ok (.iload 4, 2) := by decide +kernel
theorem dL_law_3358 : decode cL_law 3358 = .ok (.iconst 2, 1) := by decide +kernel
theorem dL_law_3359 : decode cL_law 3359 = .ok (.iadd, 1) := by decide +kernel
theorem dL_law_3360 : decode cL_law 3360 = .ok (.iaload, 1) := by decide +kernel
theorem dL_law_3361 : decode cL_law 3361 = .ok (.invokevirtual 332, 3) := by decide +kernel
theorem dL_law_3364 : decode cL_law 3364 = .ok (.lstore 6, 2) := by decide +kernel
theorem dL_law_3366 : decode cL_law 3366 = .ok (.aload_n 2, 1) := by decide +kernel
theorem dL_law_3367 : decode cL_law 3367 = .ok (.invokevirtual 192, 3) := by decide +kernel
theorem dL_law_3370 : decode cL_law 3370 = .ok (.iload 5, 2) := by decide +kernel
theorem dL_law_3372 : decode cL_law 3372 = .ok (.if_icmp .eq 5, 3) := by decide +kernel
theorem dL_law_3377 : decode cL_law 3377 = .ok (.iload 5, 2) := by decide +kernel
theorem dL_law_3379 : decode cL_law 3379 = .ok (.ifCond .ne 14, 3) := by decide +kernel
theorem dL_law_3393 : decode cL_law 3393 = .ok (.goto 520, 3) := by decide +kernel
theorem dL_law_3396 : decode cL_law 3396 = .ok (.aload_n 1, 1) := by decide +kernel
theorem dL_law_3397 : decode cL_law 3397 = .ok (.aload_n 0, 1) := by decide +kernel
theorem dL_law_3398 : decode cL_law 3398 = .ok (.iload 4, 2) := by decide +kernel
theorem dL_law_3400 : decode cL_law 3400 = .ok (.iconst 1, 1) := by decide +kernel
theorem dL_law_3401 : decode cL_law 3401 = .ok (.iadd, 1) := by decide +kernel
theorem dL_law_3402 : decode cL_law 3402 = .ok (.iaload, 1) := by decide +kernel
theorem dL_law_3403 : decode cL_law 3403 = .ok (.aload_n 0, 1) := by decide +kernel
theorem dL_law_3404 : decode cL_law 3404 = .ok (.iload 4, 2) := by decide +kernel
theorem dL_law_3406 : decode cL_law 3406 = .ok (.iconst 2, 1) := by decide +kernel
theorem dL_law_3407 : decode cL_law 3407 = .ok (.iadd, 1) := by decide +kernel
theorem dL_law_3408 : decode cL_law 3408 = .ok (.iaload, 1) := by decide +kernel
theorem dL_law_3409 : decode cL_law 3409 = .ok (.aload_n 3, 1) := by decide +kernel
theorem dL_law_3410 : decode cL_law 3410 = .ok (.invokestatic 333, 3) := by decide +kernel
theorem dL_law_3413 : decode cL_law 3413 = .ok (.istore 5, 2) := by decide +kernel
theorem dL_law_3415 : decode cL_law 3415 = .ok (.aload_n 2, 1) := by decide +kernel
theorem dL_law_3416 : decode cL_law 3416 = .ok (.aload_n 0, 1) := by decide +kernel
theorem dL_law_3417 : decode cL_law 3417 = .ok (.iload 4, 2) := by decide +kernel
theorem dL_law_3419 : decode cL_law 3419 = .ok (.iconst 1, 1) := by decide +kernel
theorem dL_law_3420 : decode cL_law 3420 = .ok (.iadd, 1) := by decide +kernel
theorem dL_law_3421 : decode cL_law 3421 = .ok (.iaload, 1) := by decide +kernel
theorem dL_law_3422 : decode cL_law 3422 = .ok (.aload_n 0, 1) := by decide +kernel
theorem dL_law_3423 : decode cL_law 3423 = .ok (.iload 4, 2) := by decide +kernel
theorem dL_law_3425 : decode cL_law 3425 = .ok (.iconst 2, 1) := by decide +kernel
theorem dL_law_3426 : decode cL_law 3426 = .ok (.iadd, 1) := by decide +kernel
theorem dL_law_3427 : decode cL_law 3427 = .ok (.iaload, 1) := by decide +kernel
theorem dL_law_3428 : decode cL_law 3428 = .ok (.invokevirtual 335, 3) := by decide +kernel
theorem dL_law_3431 : decode cL_law 3431 = .ok (.lstore 6, 2) := by decide +kernel
theorem dL_law_3433 : decode cL_law 3433 = .ok (.aload_n 2, 1) := by decide +kernel
theorem dL_law_3434 : decode cL_law 3434 = .ok (.invokevirtual 192, 3) := by decide +kernel
theorem dL_law_3437 : decode cL_law 3437 = .ok (.iload 5, 2) := by decide +kernel
theorem dL_law_3439 : decode cL_law 3439 = .ok (.if_icmp .eq 5, 3) := by decide +kernel
theorem dL_law_3444 : decode cL_law 3444 = .ok (.iload 5, 2) := by decide +kernel
theorem dL_law_3446 : decode cL_law 3446 = .ok (.ifCond .ne 14, 3) := by decide +kernel
theorem dL_law_3460 : decode cL_law 3460 = .ok (.goto 453, 3) := by decide +kernel
theorem dL_law_3463 : decode cL_law 3463 = .ok (.aload_n 1, 1) := by decide +kernel
theorem dL_law_3464 : decode cL_law 3464 = .ok (.aload_n 0, 1) := by decide +kernel
theorem dL_law_3465 : decode cL_law 3465 = .ok (.iload 4, 2) := by decide +kernel
theorem dL_law_3467 : decode cL_law 3467 = .ok (.iconst 1, 1) := by decide +kernel
theorem dL_law_3468 : decode cL_law 3468 = .ok (.iadd, 1) := by decide +kernel
theorem dL_law_3469 : decode cL_law 3469 = .ok (.iaload, 1) := by decide +kernel
theorem dL_law_3470 : decode cL_law 3470 = .ok (.aload_n 3, 1) := by decide +kernel
theorem dL_law_3471 : decode cL_law 3471 = .ok (.invokestatic 336, 3) := by decide +kernel
theorem dL_law_3474 : decode cL_law 3474 = .ok (.istore 5, 2) := by decide +kernel
theorem dL_law_3476 : decode cL_law 3476 = .ok (.aload_n 2, 1) := by decide +kernel
theorem dL_law_3477 : decode cL_law 3477 = .ok (.aload_n 0, 1) := by decide +kernel
theorem dL_law_3478 : decode cL_law 3478 = .ok (.iload 4, 2) := by decide +kernel
theorem dL_law_3480 : decode cL_law 3480 = .ok (.iconst 1, 1) := by decide +kernel
theorem dL_law_3481 : decode cL_law 3481 = .ok (.iadd, 1) := by decide +kernel
theorem dL_law_3482 : decode cL_law 3482 = .ok (.iaload, 1) := by decide +kernel
theorem dL_law_3483 : decode cL_law 3483 = .ok (.invokevirtual 338, 3) := by decide +kernel
theorem dL_law_3486 : decode cL_law 3486 = .ok (.lstore 6, 2) := by decide +kernel
theorem dL_law_3488 : decode cL_law 3488 = .ok (.aload_n 2, 1) := by decide +kernel
theorem dL_law_3489 : decode cL_law 3489 = .ok (.invokevirtual 192, 3) := by decide +kernel
theorem dL_law_3492 : decode cL_law 3492 = .ok (.iload 5, 2) := by decide +kernel
theorem dL_law_3494 : decode cL_law 3494 = .ok (.if_icmp .eq 5, 3) := by decide +kernel
theorem dL_law_3499 : decode cL_law 3499 = .ok (.iload 5, 2) := by decide +kernel
theorem dL_law_3501 : decode cL_law 3501 = .ok (.ifCond .ne 14, 3) := by decide +kernel
theorem dL_law_3515 : decode cL_law 3515 = .ok (.goto 398, 3) := by decide +kernel
theorem dL_law_3518 : decode cL_law 3518 = .ok (.aload_n 1, 1) := by decide +kernel
theorem dL_law_3519 : decode cL_law 3519 = .ok (.aload_n 0, 1) := by decide +kernel
theorem dL_law_3520 : decode cL_law 3520 = .ok (.iload 4, 2) := by decide +kernel
theorem dL_law_3522 : decode cL_law 3522 = .ok (.iconst 1, 1) := by decide +kernel
theorem dL_law_3523 : decode cL_law 3523 = .ok (.iadd, 1) := by decide +kernel
theorem dL_law_3524 : decode cL_law 3524 = .ok (.iaload, 1) := by decide +kernel
theorem dL_law_3525 : decode cL_law 3525 = .ok (.aload_n 0, 1) := by decide +kernel
theorem dL_law_3526 : decode cL_law 3526 = .ok (.iload 4, 2) := by decide +kernel
theorem dL_law_3528 : decode cL_law 3528 = .ok (.iconst 2, 1) := by decide +kernel
theorem dL_law_3529 : decode cL_law 3529 = .ok (.iadd, 1) := by decide +kernel
theorem dL_law_3530 : decode cL_law 3530 = .ok (.iaload, 1) := by decide +kernel
theorem dL_law_3531 : decode cL_law 3531 = .ok (.aload_n 0, 1) := by decide +kernel
theorem dL_law_3532 : decode cL_law 3532 = .ok (.iload 4, 2) := by decide +kernel
theorem dL_law_3534 : decode cL_law 3534 = .ok (.iconst 3, 1) := by decide +kernel
theorem dL_law_3535 : decode cL_law 3535 = .ok (.iadd, 1) := by decide +kernel
theorem dL_law_3536 : decode cL_law 3536 = .ok (.iaload, 1) := by decide +kernel
theorem dL_law_3537 : decode cL_law 3537 = .ok (.aload_n 3, 1) := by decide +kernel
theorem dL_law_3538 : decode cL_law 3538 = .ok (.invokestatic 339, 3) := by decide +kernel
theorem dL_law_3541 : decode cL_law 3541 = .ok (.istore 5, 2) := by decide +kernel
theorem dL_law_3543 : decode cL_law 3543 = .ok (.aload_n 2, 1) := by decide +kernel
theorem dL_law_3544 : decode cL_law 3544 = .ok (.aload_n 0, 1) := by decide +kernel
theorem dL_law_3545 : decode cL_law 3545 = .ok (.iload 4, 2) := by decide +kernel
theorem dL_law_3547 : decode cL_law 3547 = .ok (.iconst 1, 1) := by decide +kernel
theorem dL_law_3548 : decode cL_law 3548 = .ok (.iadd, 1) := by decide +kernel
theorem dL_law_3549 : decode cL_law 3549 = .ok (.iaload, 1) := by decide +kernel
theorem dL_law_3550 : decode cL_law 3550 = .ok (.aload_n 0, 1) := by decide +kernel
theorem dL_law_3551 : decode cL_law 3551 = .ok (.iload 4, 2) := by decide +kernel
theorem dL_law_3553 : decode cL_law 3553 = .ok (.iconst 2, 1) := by decide +kernel
theorem dL_law_3554 : decode cL_law 3554 = .ok (.iadd, 1) := by decide +kernel
theorem dL_law_3555 : decode cL_law 3555 = .ok (.iaload, 1) := by decide +kernel
theorem dL_law_3556 : decode cL_law 3556 = .ok (.aload_n 0, 1) := by decide +kernel
theorem dL_law_3557 : decode cL_law 3557 = .ok (.iload 4, 2) := by decide +kernel
theorem dL_law_3559 : decode cL_law 3559 = .ok (.iconst 3, 1) := by decide +kernel
theorem dL_law_3560 : decode cL_law 3560 = .ok (.iadd, 1) := by decide +kernel
theorem dL_law_3561 : decode cL_law 3561 = .ok (.iaload, 1) := by decide +kernel
theorem dL_law_3562 : decode cL_law 3562 = .ok (.invokevirtual 341, 3) := by decide +kernel
theorem dL_law_3565 : decode cL_law 3565 = .ok (.istore 6, 2) := by decide +kernel
theorem dL_law_3567 : decode cL_law 3567 = .ok (.aload_n 2, 1) := by decide +kernel
theorem dL_law_3568 : decode cL_law 3568 = .ok (.invokevirtual 192, 3) := by decide +kernel
theorem dL_law_3571 : decode cL_law 3571 = .ok (.iload 5, 2) := by decide +kernel
theorem dL_law_3573 : decode cL_law 3573 = .ok (.if_icmp .eq 5, 3) := by decide +kernel
theorem dL_law_3578 : decode cL_law 3578 = .ok (.iload 5, 2) := by decide +kernel
theorem dL_law_3580 : decode cL_law 3580 = .ok (.ifCond .ne 15, 3) := by decide +kernel
theorem dL_law_3595 : decode cL_law 3595 = .ok (.goto 318, 3) := by decide +kernel
theorem dL_law_3598 : decode cL_law 3598 = .ok (.aload_n 1, 1) := by decide +kernel
theorem dL_law_3599 : decode cL_law 3599 = .ok (.aload_n 0, 1) := by decide +kernel
theorem dL_law_3600 : decode cL_law 3600 = .ok (.iload 4, 2) := by decide +kernel
theorem dL_law_3602 : decode cL_law 3602 = .ok (.iconst 1, 1) := by decide +kernel
theorem dL_law_3603 : decode cL_law 3603 = .ok (.iadd, 1) := by decide +kernel
theorem dL_law_3604 : decode cL_law 3604 = .ok (.iaload, 1) := by decide +kernel
theorem dL_law_3605 : decode cL_law 3605 = .ok (.aload_n 3, 1) := by decide +kernel
theorem dL_law_3606 : decode cL_law 3606 = .ok (.invokestatic 342, 3) := by decide +kernel
theorem dL_law_3609 : decode cL_law 3609 = .ok (.istore 5, 2) := by decide +kernel
theorem dL_law_3611 : decode cL_law 3611 = .ok (.aload_n 2, 1) := by decide +kernel
theorem dL_law_3612 : decode cL_law 3612 = .ok (.aload_n 0, 1) := by decide +kernel
theorem dL_law_3613 : decode cL_law 3613 = .ok (.iload 4, 2) := by decide +kernel
theorem dL_law_3615 : decode cL_law 3615 = .ok (.iconst 1, 1) := by decide +kernel
theorem dL_law_3616 : decode cL_law 3616 = .ok (.iadd, 1) := by decide +kernel
theorem dL_law_3617 : decode cL_law 3617 = .ok (.iaload, 1) := by decide +kernel
theorem dL_law_3618 : decode cL_law 3618 = .ok (.invokevirtual 344, 3) := by decide +kernel
theorem dL_law_3621 : decode cL_law 3621 = .ok (.istore 6, 2) := by decide +kernel
theorem dL_law_3623 : decode cL_law 3623 = .ok (.aload_n 2, 1) := by decide +kernel
theorem dL_law_3624 : decode cL_law 3624 = .ok (.invokevirtual 192, 3) := by decide +kernel
theorem dL_law_3627 : decode cL_law 3627 = .ok (.iload 5, 2) := by decide +kernel
theorem dL_law_3629 : decode cL_law 3629 = .ok (.if_icmp .eq 5, 3) := by decide +kernel
theorem dL_law_3634 : decode cL_law 3634 = .ok (.iload 5, 2) := by decide +kernel
theorem dL_law_3636 : decode cL_law 3636 = .ok (.ifCond .ne 15, 3) := by decide +kernel
theorem dL_law_3639 : decode cL_law 3639 = .ok (.aload_n 3, 1) := by decide +kernel
theorem dL_law_3640 : decode cL_law 3640 = .ok (.iconst 0, 1) := by decide +kernel
theorem dL_law_3641 : decode cL_law 3641 = .ok (.laload, 1) := by decide +kernel
theorem dL_law_3642 : decode cL_law 3642 = .ok (.iload 6, 2) := by decide +kernel
theorem dL_law_3644 : decode cL_law 3644 = .ok (.i2l, 1) := by decide +kernel
theorem dL_law_3645 : decode cL_law 3645 = .ok (.lcmp, 1) := by decide +kernel
theorem dL_law_3646 : decode cL_law 3646 = .ok (.ifCond .eq 5, 3) := by decide +kernel
theorem dL_law_3651 : decode cL_law 3651 = .ok (.goto 262, 3) := by decide +kernel
theorem dL_law_3654 : decode cL_law 3654 = .ok (.aload_n 1, 1) := by decide +kernel
theorem dL_law_3655 : decode cL_law 3655 = .ok (.aload_n 0, 1) := by decide +kernel
theorem dL_law_3656 : decode cL_law 3656 = .ok (.iload 4, 2) := by decide +kernel
theorem dL_law_3658 : decode cL_law 3658 = .ok (.iconst 1, 1) := by decide +kernel
theorem dL_law_3659 : decode cL_law 3659 = .ok (.iadd, 1) := by decide +kernel
theorem dL_law_3660 : decode cL_law 3660 = .ok (.iaload, 1) := by decide +kernel
theorem dL_law_3661 : decode cL_law 3661 = .ok (.aload_n 0, 1) := by decide +kernel
theorem dL_law_3662 : decode cL_law 3662 = .ok (.iload 4, 2) := by decide +kernel
theorem dL_law_3664 : decode cL_law 3664 = .ok (.iconst 2, 1) := by decide +kernel
theorem dL_law_3665 : decode cL_law 3665 = .ok (.iadd, 1) := by decide +kernel
theorem dL_law_3666 : decode cL_law 3666 = .ok (.iaload, 1) := by decide +kernel
theorem dL_law_3667 : decode cL_law 3667 = .ok (.aload_n 3, 1) := by decide +kernel
theorem dL_law_3668 : decode cL_law 3668 = .ok (.invokestatic 345, 3) := by decide +kernel
theorem dL_law_3671 : decode cL_law 3671 = .ok (.istore 5, 2) := by decide +kernel
theorem dL_law_3673 : decode cL_law 3673 = .ok (.aload_n 2, 1) := by decide +kernel
theorem dL_law_3674 : decode cL_law 3674 = .ok (.aload_n 0, 1) := by decide +kernel
theorem dL_law_3675 : decode cL_law 3675 = .ok (.iload 4, 2) := by decide +kernel
theorem dL_law_3677 : decode cL_law 3677 = .ok (.iconst 1, 1) := by decide +kernel
theorem dL_law_3678 : decode cL_law 3678 = .ok (.iadd, 1) := by decide +kernel
theorem dL_law_3679 : decode cL_law 3679 = .ok (.iaload, 1) := by decide +kernel
theorem dL_law_3680 : decode cL_law 3680 = .ok (.aload_n 0, 1) := by decide +kernel
theorem dL_law_3681 : decode cL_law 3681 = .ok (.iload 4, 2) := by decide +kernel
theorem dL_law_3683 : decode cL_law 3683 = .ok (.iconst 2, 1) := by decide +kernel
theorem dL_law_3684 : decode cL_law 3684 = .ok (.iadd, 1) := by decide +kernel
theorem dL_law_3685 : decode cL_law 3685 = .ok (.iaload, 1) := by decide +kernel
theorem dL_law_3686 : decode cL_law 3686 = .ok (.invokevirtual 347, 3) := by decide +kernel
theorem dL_law_3689 : decode cL_law 3689 = .ok (.lstore 6, 2) := by decide +kernel
theorem dL_law_3691 : decode cL_law 3691 = .ok (.aload_n 2, 1) := by decide +kernel
theorem dL_law_3692 : decode cL_law 3692 = .ok (.invokevirtual 192, 3) := by decide +kernel
theorem dL_law_3695 : decode cL_law 3695 = .ok (.iload 5, 2) := by decide +kernel
theorem dL_law_3697 : decode cL_law 3697 = .ok (.if_icmp .eq 5, 3) := by decide +kernel
theorem dL_law_3702 : decode cL_law 3702 = .ok (.iload 5, 2) := by decide +kernel
theorem dL_law_3704 : decode cL_law 3704 = .ok (.ifCond .ne 14, 3) := by decide +kernel
theorem dL_law_3718 : decode cL_law 3718 = .ok (.goto 195, 3) := by decide +kernel
theorem dL_law_3721 : decode cL_law 3721 = .ok (.aload_n 1, 1) := by decide +kernel
theorem dL_law_3722 : decode cL_law 3722 = .ok (.aload_n 0, 1) := by decide +kernel
theorem dL_law_3723 : decode cL_law 3723 = .ok (.iload 4, 2) := by decide +kernel
theorem dL_law_3725 : decode cL_law 3725 = .ok (.iconst 1, 1) := by decide +kernel
theorem dL_law_3726 : decode cL_law 3726 = .ok (.iadd, 1) := by decide +kernel
theorem dL_law_3727 : decode cL_law 3727 = .ok (.iaload, 1) := by decide +kernel
theorem dL_law_3728 : decode cL_law 3728 = .ok (.aload_n 0, 1) := by decide +kernel
theorem dL_law_3729 : decode cL_law 3729 = .ok (.iload 4, 2) := by decide +kernel
theorem dL_law_3731 : decode cL_law 3731 = .ok (.iconst 2, 1) := by decide +kernel
theorem dL_law_3732 : decode cL_law 3732 = .ok (.iadd, 1) := by decide +kernel
theorem dL_law_3733 : decode cL_law 3733 = .ok (.iaload, 1) := by decide +kernel
theorem dL_law_3734 : decode cL_law 3734 = .ok (.aload_n 3, 1) := by decide +kernel
theorem dL_law_3735 : decode cL_law 3735 = .ok (.invokestatic 348, 3) := by decide +kernel
theorem dL_law_3738 : decode cL_law 3738 = .ok (.istore 5, 2) := by decide +kernel
theorem dL_law_3740 : decode cL_law 3740 = .ok (.aload_n 2, 1) := by decide +kernel
theorem dL_law_3741 : decode cL_law 3741 = .ok (.aload_n 0, 1) := by decide +kernel
theorem dL_law_3742 : decode cL_law 3742 = .ok (.iload 4, 2) := by decide +kernel
theorem dL_law_3744 : decode cL_law 3744 = .ok (.iconst 1, 1) := by decide +kernel
theorem dL_law_3745 : decode cL_law 3745 = .ok (.iadd, 1) := by decide +kernel
