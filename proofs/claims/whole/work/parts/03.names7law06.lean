theorem dL_law_2860 : decode cL_law 2860 = .ok (.iaload, 1) := by decide +kernel
theorem dL_law_2861 : decode cL_law 2861 = .ok (.aload_n 3, 1) := by decide +kernel
theorem dL_law_2862 : decode cL_law 2862 = .ok (.invokestatic 277, 3) := by decide +kernel
theorem dL_law_2865 : decode cL_law 2865 = .ok (.istore 6, 2) := by decide +kernel
theorem dL_law_2867 : decode cL_law 2867 = .ok (.aload_n 2, 1) := by decide +kernel
theorem dL_law_2868 : decode cL_law 2868 = .ok (.aload_n 0, 1) := by decide +kernel
theorem dL_law_2869 : decode cL_law 2869 = .ok (.iload 5, 2) := by decide +kernel
theorem dL_law_2871 : decode cL_law 2871 = .ok (.iconst 1, 1) := by decide +kernel
theorem dL_law_2872 : decode cL_law 2872 = .ok (.iadd, 1) := by decide +kernel
theorem dL_law_2873 : decode cL_law 2873 = .ok (.iaload, 1) := by decide +kernel
theorem dL_law_2874 : decode cL_law 2874 = .ok (.invokevirtual 279, 3) := by decide +kernel
theorem dL_law_2877 : decode cL_law 2877 = .ok (.istore 7, 2) := by decide +kernel
theorem dL_law_2879 : decode cL_law 2879 = .ok (.aload_n 2, 1) := by decide +kernel
theorem dL_law_2880 : decode cL_law 2880 = .ok (.invokevirtual 161, 3) := by decide +kernel
theorem dL_law_2883 : decode cL_law 2883 = .ok (.iload 6, 2) := by decide +kernel
theorem dL_law_2885 : decode cL_law 2885 = .ok (.if_icmp .eq 5, 3) := by decide +kernel
theorem dL_law_2888 : decode cL_law 2888 = .ok (.iconst 0, 1) := by decide +kernel
theorem dL_law_2889 : decode cL_law 2889 = .ok (.ireturn, 1) := by decide +kernel
theorem dL_law_2890 : decode cL_law 2890 = .ok (.iload 6, 2) := by decide +kernel
theorem dL_law_2892 : decode cL_law 2892 = .ok (.ifCond .ne 15, 3) := by decide +kernel
theorem dL_law_2895 : decode cL_law 2895 = .ok (.aload_n 3, 1) := by decide +kernel
theorem dL_law_2896 : decode cL_law 2896 = .ok (.iconst 0, 1) := by decide +kernel
theorem dL_law_2897 : decode cL_law 2897 = .ok (.laload, 1) := by decide +kernel
theorem dL_law_2898 : decode cL_law 2898 = .ok (.iload 7, 2) := by decide +kernel
theorem dL_law_2900 : decode cL_law 2900 = .ok (.i2l, 1) := by decide +kernel
theorem dL_law_2901 : decode cL_law 2901 = .ok (.lcmp, 1) := by decide +kernel
theorem dL_law_2902 : decode cL_law 2902 = .ok (.ifCond .eq 5, 3) := by decide +kernel
theorem dL_law_2905 : decode cL_law 2905 = .ok (.iconst 0, 1) := by decide +kernel
theorem dL_law_2906 : decode cL_law 2906 = .ok (.ireturn, 1) := by decide +kernel
theorem dL_law_2907 : decode cL_law 2907 = .ok (.goto 396, 3) := by decide +kernel
theorem dL_law_2910 : decode cL_law 2910 = .ok (.aload_n 1, 1) := by decide +kernel
theorem dL_law_2911 : decode cL_law 2911 = .ok (.aload_n 0, 1) := by decide +kernel
theorem dL_law_2912 : decode cL_law 2912 = .ok (.iload 5, 2) := by decide +kernel
theorem dL_law_2914 : decode cL_law 2914 = .ok (.iconst 1, 1) := by decide +kernel
theorem dL_law_2915 : decode cL_law 2915 = .ok (.iadd, 1) := by decide +kernel
theorem dL_law_2916 : decode cL_law 2916 = .ok (.iaload, 1) := by decide +kernel
theorem dL_law_2917 : decode cL_law 2917 = .ok (.aload_n 0, 1) := by decide +kernel
theorem dL_law_2918 : decode cL_law 2918 = .ok (.iload 5, 2) := by decide +kernel
theorem dL_law_2920 : decode cL_law 2920 = .ok (.iconst 2, 1) := by decide +kernel
theorem dL_law_2921 : decode cL_law 2921 = .ok (.iadd, 1) := by decide +kernel
theorem dL_law_2922 : decode cL_law 2922 = .ok (.iaload, 1) := by decide +kernel
theorem dL_law_2923 : decode cL_law 2923 = .ok (.aload_n 0, 1) := by decide +kernel
theorem dL_law_2924 : decode cL_law 2924 = .ok (.iload 5, 2) := by decide +kernel
theorem dL_law_2926 : decode cL_law 2926 = .ok (.iconst 3, 1) := by decide +kernel
theorem dL_law_2927 : decode cL_law 2927 = .ok (.iadd, 1) := by decide +kernel
theorem dL_law_2928 : decode cL_law 2928 = .ok (.iaload, 1) := by decide +kernel
theorem dL_law_2929 : decode cL_law 2929 = .ok (.aload_n 0, 1) := by decide +kernel
theorem dL_law_2930 : decode cL_law 2930 = .ok (.iload 5, 2) := by decide +kernel
theorem dL_law_2932 : decode cL_law 2932 = .ok (.iconst 4, 1) := by decide +kernel
theorem dL_law_2933 : decode cL_law 2933 = .ok (.iadd, 1) := by decide +kernel
theorem dL_law_2934 : decode cL_law 2934 = .ok (.iaload, 1) := by decide +kernel
theorem dL_law_2935 : decode cL_law 2935 = .ok (.aload_n 3, 1) := by decide +kernel
theorem dL_law_2936 : decode cL_law 2936 = .ok (.invokestatic 280, 3) := by decide +kernel
theorem dL_law_2939 : decode cL_law 2939 = .ok (.istore 6, 2) := by decide +kernel
theorem dL_law_2941 : decode cL_law 2941 = .ok (.aload_n 2, 1) := by decide +kernel
theorem dL_law_2942 : decode cL_law 2942 = .ok (.aload_n 0, 1) := by decide +kernel
theorem dL_law_2943 : decode cL_law 2943 = .ok (.iload 5, 2) := by decide +kernel
theorem dL_law_2945 : decode cL_law 2945 = .ok (.iconst 1, 1) := by decide +kernel
theorem dL_law_2946 : decode cL_law 2946 = .ok (.iadd, 1) := by decide +kernel
theorem dL_law_2947 : decode cL_law 2947 = .ok (.iaload, 1) := by decide +kernel
theorem dL_law_2948 : decode cL_law 2948 = .ok (.aload_n 0, 1) := by decide +kernel
theorem dL_law_2949 : decode cL_law 2949 = .ok (.iload 5, 2) := by decide +kernel
theorem dL_law_2951 : decode cL_law 2951 = .ok (.iconst 2, 1) := by decide +kernel
theorem dL_law_2952 : decode cL_law 2952 = .ok (.iadd, 1) := by decide +kernel
theorem dL_law_2953 : decode cL_law 2953 = .ok (.iaload, 1) := by decide +kernel
theorem dL_law_2954 : decode cL_law 2954 = .ok (.aload_n 0, 1) := by decide +kernel
theorem dL_law_2955 : decode cL_law 2955 = .ok (.iload 5, 2) := by decide +kernel
theorem dL_law_2957 : decode cL_law 2957 = .ok (.iconst 3, 1) := by decide +kernel
theorem dL_law_2958 : decode cL_law 2958 = .ok (.iadd, 1) := by decide +kernel
theorem dL_law_2959 : decode cL_law 2959 = .ok (.iaload, 1) := by decide +kernel
theorem dL_law_2960 : decode cL_law 2960 = .ok (.aload_n 0, 1) := by decide +kernel
theorem dL_law_2961 : decode cL_law 2961 = .ok (.iload 5, 2) := by decide +kernel
theorem dL_law_2963 : decode cL_law 2963 = .ok (.iconst 4, 1) := by decide +kernel
theorem dL_law_2964 : decode cL_law 2964 = .ok (.iadd, 1) := by decide +kernel
theorem dL_law_2965 : decode cL_law 2965 = .ok (.iaload, 1) := by decide +kernel
theorem dL_law_2966 : decode cL_law 2966 = .ok (.invokevirtual 282, 3) := by decide +kernel
theorem dL_law_2969 : decode cL_law 2969 = .ok (.istore 7, 2) := by decide +kernel
theorem dL_law_2971 : decode cL_law 2971 = .ok (.aload_n 2, 1) := by decide +kernel
theorem dL_law_2972 : decode cL_law 2972 = .ok (.invokevirtual 161, 3) := by decide +kernel
theorem dL_law_2975 : decode cL_law 2975 = .ok (.iload 6, 2) := by decide +kernel
theorem dL_law_2977 : decode cL_law 2977 = .ok (.if_icmp .eq 5, 3) := by decide +kernel
theorem dL_law_2980 : decode cL_law 2980 = .ok (.iconst 0, 1) := by decide +kernel
theorem dL_law_2981 : decode cL_law 2981 = .ok (.ireturn, 1) := by decide +kernel
theorem dL_law_2982 : decode cL_law 2982 = .ok (.iload 6, 2) := by decide +kernel
theorem dL_law_2984 : decode cL_law 2984 = .ok (.ifCond .ne 15, 3) := by decide +kernel
theorem dL_law_2987 : decode cL_law 2987 = .ok (.aload_n 3, 1) := by decide +kernel
theorem dL_law_2988 : decode cL_law 2988 = .ok (.iconst 0, 1) := by decide +kernel
theorem dL_law_2989 : decode cL_law 2989 = .ok (.laload, 1) := by decide +kernel
theorem dL_law_2990 : decode cL_law 2990 = .ok (.iload 7, 2) := by decide +kernel
theorem dL_law_2992 : decode cL_law 2992 = .ok (.i2l, 1) := by decide +kernel
theorem dL_law_2993 : decode cL_law 2993 = .ok (.lcmp, 1) := by decide +kernel
theorem dL_law_2994 : decode cL_law 2994 = .ok (.ifCond .eq 5, 3) := by decide +kernel
theorem dL_law_2997 : decode cL_law 2997 = .ok (.iconst 0, 1) := by decide +kernel
theorem dL_law_2998 : decode cL_law 2998 = .ok (.ireturn, 1) := by decide +kernel
theorem dL_law_2999 : decode cL_law 2999 = .ok (.goto 304, 3) := by decide +kernel
theorem dL_law_3002 : decode cL_law 3002 = .ok (.aload_n 1, 1) := by decide +kernel
theorem dL_law_3003 : decode cL_law 3003 = .ok (.aload_n 0, 1) := by decide +kernel
theorem dL_law_3004 : decode cL_law 3004 = .ok (.iload 5, 2) := by decide +kernel
theorem dL_law_3006 : decode cL_law 3006 = .ok (.iconst 1, 1) := by decide +kernel
theorem dL_law_3007 : decode cL_law 3007 = .ok (.iadd, 1) := by decide +kernel
theorem dL_law_3008 : decode cL_law 3008 = .ok (.iaload, 1) := by decide +kernel
theorem dL_law_3009 : decode cL_law 3009 = .ok (.aload_n 0, 1) := by decide +kernel
theorem dL_law_3010 : decode cL_law 3010 = .ok (.iload 5, 2) := by decide +kernel
theorem dL_law_3012 : decode cL_law 3012 = .ok (.iconst 2, 1) := by decide +kernel
theorem dL_law_3013 : decode cL_law 3013 = .ok (.iadd, 1) := by decide +kernel
theorem dL_law_3014 : decode cL_law 3014 = .ok (.iaload, 1) := by decide +kernel
theorem dL_law_3015 : decode cL_law 3015 = .ok (.i2l, 1) := by decide +kernel
theorem dL_law_3016 : decode cL_law 3016 = .ok (.bipush 32, 2) := by decide +kernel
theorem dL_law_3018 : decode cL_law 3018 = .ok (.lshl, 1) := by decide +kernel
theorem dL_law_3019 : decode cL_law 3019 = .ok (.aload_n 0, 1) := by decide +kernel
theorem dL_law_3020 : decode cL_law 3020 = .ok (.iload 5, 2) := by decide +kernel
theorem dL_law_3022 : decode cL_law 3022 = .ok (.iconst 3, 1) := by decide +kernel
theorem dL_law_3023 : decode cL_law 3023 = .ok (.iadd, 1) := by decide +kernel
theorem dL_law_3024 : decode cL_law 3024 = .ok (.iaload, 1) := by decide +kernel
theorem dL_law_3025 : decode cL_law 3025 = .ok (.i2l, 1) := by decide +kernel
theorem dL_law_3026 : decode cL_law 3026 = .ok (.ldc2_w 258, 3) := by decide +kernel
theorem dL_law_3029 : decode cL_law 3029 = .ok (.land, 1) := by decide +kernel
theorem dL_law_3030 : decode cL_law 3030 = .ok (.lor, 1) := by decide +kernel
theorem dL_law_3031 : decode cL_law 3031 = .ok (.aload_n 3, 1) := by decide +kernel
theorem dL_law_3032 : decode cL_law 3032 = .ok (.invokestatic 283, 3) := by decide +kernel
theorem dL_law_3035 : decode cL_law 3035 = .ok (.istore 6, 2) := by decide +kernel
theorem dL_law_3037 : decode cL_law 3037 = .ok (.aload_n 2, 1) := by decide +kernel
theorem dL_law_3038 : decode cL_law 3038 = .ok (.aload_n 0, 1) := by decide +kernel
theorem dL_law_3039 : decode cL_law 3039 = .ok (.iload 5, 2) := by decide +kernel
theorem dL_law_3041 : decode cL_law 3041 = .ok (.iconst 1, 1) := by decide +kernel
theorem dL_law_3042 : decode cL_law 3042 = .ok (.iadd, 1) := by decide +kernel
theorem dL_law_3043 : decode cL_law 3043 = .ok (.iaload, 1) := by decide +kernel
theorem dL_law_3044 : decode cL_law 3044 = .ok (.aload_n 0, 1) := by decide +kernel
theorem dL_law_3045 : decode cL_law 3045 = .ok (.iload 5, 2) := by decide +kernel
theorem dL_law_3047 : decode cL_law 3047 = .ok (.iconst 2, 1) := by decide +kernel
theorem dL_law_3048 : decode cL_law 3048 = .ok (.iadd, 1) := by decide +kernel
theorem dL_law_3049 : decode cL_law 3049 = .ok (.iaload, 1) := by decide +kernel
theorem dL_law_3050 : decode cL_law 3050 = .ok (.i2l, 1) := by decide +kernel
theorem dL_law_3051 : decode cL_law 3051 = .ok (.bipush 32, 2) := by decide +kernel
theorem dL_law_3053 : decode cL_law 3053 = .ok (.lshl, 1) := by decide +kernel
theorem dL_law_3054 : decode cL_law 3054 = .ok (.aload_n 0, 1) := by decide +kernel
theorem dL_law_3055 : decode cL_law 3055 = .ok (.iload 5, 2) := by decide +kernel
theorem dL_law_3057 : decode cL_law 3057 = .ok (.iconst 3, 1) := by decide +kernel
theorem dL_law_3058 : decode cL_law 3058 = .ok (.iadd, 1) := by decide +kernel
theorem dL_law_3059 : decode cL_law 3059 = .ok (.iaload, 1) := by decide +kernel
theorem dL_law_3060 : decode cL_law 3060 = .ok (.i2l, 1) := by decide +kernel
theorem dL_law_3061 : decode cL_law 3061 = .ok (.ldc2_w 258, 3) := by decide +kernel
theorem dL_law_3064 : decode cL_law 3064 = .ok (.land, 1) := by decide +kernel
theorem dL_law_3065 : decode cL_law 3065 = .ok (.lor, 1) := by decide +kernel
theorem dL_law_3066 : decode cL_law 3066 = .ok (.invokevirtual 285, 3) := by decide +kernel
theorem dL_law_3069 : decode cL_law 3069 = .ok (.lstore 7, 2) := by decide +kernel
theorem dL_law_3071 : decode cL_law 3071 = .ok (.aload_n 2, 1) := by decide +kernel
theorem dL_law_3072 : decode cL_law 3072 = .ok (.invokevirtual 161, 3) := by decide +kernel
theorem dL_law_3075 : decode cL_law 3075 = .ok (.iload 6, 2) := by decide +kernel
theorem dL_law_3077 : decode cL_law 3077 = .ok (.if_icmp .eq 5, 3) := by decide +kernel
theorem dL_law_3080 : decode cL_law 3080 = .ok (.iconst 0, 1) := by decide +kernel
theorem dL_law_3081 : decode cL_law 3081 = .ok (.ireturn, 1) := by decide +kernel
theorem dL_law_3082 : decode cL_law 3082 = .ok (.iload 6, 2) := by decide +kernel
theorem dL_law_3084 : decode cL_law 3084 = .ok (.ifCond .ne 14, 3) := by decide +kernel
theorem dL_law_3087 : decode cL_law 3087 = .ok (.aload_n 3, 1) := by decide +kernel
theorem dL_law_3088 : decode cL_law 3088 = .ok (.iconst 0, 1) := by decide +kernel
theorem dL_law_3089 : decode cL_law 3089 = .ok (.laload, 1) := by decide +kernel
theorem dL_law_3090 : decode cL_law 3090 = .ok (.lload 7, 2) := by decide +kernel
theorem dL_law_3092 : decode cL_law 3092 = .ok (.lcmp, 1) := by decide +kernel
theorem dL_law_3093 : decode cL_law 3093 = .ok (.ifCond .eq 5, 3) := by decide +kernel
theorem dL_law_3096 : decode cL_law 3096 = .ok (.iconst 0, 1) := by decide +kernel
theorem dL_law_3097 : decode cL_law 3097 = .ok (.ireturn, 1) := by decide +kernel
theorem dL_law_3098 : decode cL_law 3098 = .ok (.goto 205, 3) := by decide +kernel
theorem dL_law_3101 : decode cL_law 3101 = .ok (.aload_n 1, 1) := by decide +kernel
theorem dL_law_3102 : decode cL_law 3102 = .ok (.aload_n 0, 1) := by decide +kernel
theorem dL_law_3103 : decode cL_law 3103 = .ok (.iload 5, 2) := by decide +kernel
theorem dL_law_3105 : decode cL_law 3105 = .ok (.iconst 1, 1) := by decide +kernel
theorem dL_law_3106 : decode cL_law 3106 = .ok (.iadd, 1) := by decide +kernel
theorem dL_law_3107 : decode cL_law 3107 = .ok (.iaload, 1) := by decide +kernel
theorem dL_law_3108 : decode cL_law 3108 = .ok (.aload_n 3, 1) := by decide +kernel
theorem dL_law_3109 : decode cL_law 3109 = .ok (.invokestatic 286, 3) := by decide +kernel
theorem dL_law_3112 : decode cL_law 3112 = .ok (.istore 6, 2) := by decide +kernel
theorem dL_law_3114 : decode cL_law 3114 = .ok (.aload_n 2, 1) := by decide +kernel
theorem dL_law_3115 : decode cL_law 3115 = .ok (.aload_n 0, 1) := by decide +kernel
theorem dL_law_3116 : decode cL_law 3116 = .ok (.iload 5, 2) := by decide +kernel
theorem dL_law_3118 : decode cL_law 3118 = .ok (.iconst 1, 1) := by decide +kernel
theorem dL_law_3119 : decode cL_law 3119 = .ok (.iadd, 1) := by decide +kernel
theorem dL_law_3120 : decode cL_law 3120 = .ok (.iaload, 1) := by decide +kernel
theorem dL_law_3121 : decode cL_law 3121 = .ok (.invokevirtual 288, 3) := by decide +kernel
theorem dL_law_3124 : decode cL_law 3124 = .ok (.istore 7, 2) := by decide +kernel
theorem dL_law_3126 : decode cL_law 3126 = .ok (.aload_n 2, 1) := by decide +kernel
theorem dL_law_3127 : decode cL_law 3127 = .ok (.invokevirtual 161, 3) := by decide +kernel
theorem dL_law_3130 : decode cL_law 3130 = .ok (.iload 6, 2) := by decide +kernel
theorem dL_law_3132 : decode cL_law 3132 = .ok (.if_icmp .eq 5, 3) := by decide +kernel
theorem dL_law_3135 : decode cL_law 3135 = .ok (.iconst 0, 1) := by decide +kernel
theorem dL_law_3136 : decode cL_law 3136 = .ok (.ireturn, 1) := by decide +kernel
theorem dL_law_3137 : decode cL_law 3137 = .ok (.iload 6, 2) := by decide +kernel
theorem dL_law_3139 : decode cL_law 3139 = .ok (.ifCond .ne 15, 3) := by decide +kernel
theorem dL_law_3142 : decode cL_law 3142 = .ok (.aload_n 3, 1) := by decide +kernel
theorem dL_law_3143 : decode cL_law 3143 = .ok (.iconst 0, 1) := by decide +kernel
theorem dL_law_3144 : decode cL_law 3144 = .ok (.laload, 1) := by decide +kernel
theorem dL_law_3145 : decode cL_law 3145 = .ok (.iload 7, 2) := by decide +kernel
theorem dL_law_3147 : decode cL_law 3147 = .ok (.i2l, 1) := by decide +kernel
theorem dL_law_3148 : decode cL_law 3148 = .ok (.lcmp, 1) := by decide +kernel
theorem dL_law_3149 : decode cL_law 3149 = .ok (.ifCond .eq 5, 3) := by decide +kernel
theorem dL_law_3152 : decode cL_law 3152 = .ok (.iconst 0, 1) := by decide +kernel
theorem dL_law_3153 : decode cL_law 3153 = .ok (.ireturn, 1) := by decide +kernel
theorem dL_law_3154 : decode cL_law 3154 = .ok (.goto 149, 3) := by decide +kernel
theorem dL_law_3157 : decode cL_law 3157 = .ok (.aload_n 1, 1) := by decide +kernel
theorem dL_law_3158 : decode cL_law 3158 = .ok (.aload_n 0, 1) := by decide +kernel
theorem dL_law_3159 : decode cL_law 3159 = .ok (.iload 5, 2) := by decide +kernel
theorem dL_law_3161 : decode cL_law 3161 = .ok (.iconst 1, 1) := by decide +kernel
theorem dL_law_3162 : decode cL_law 3162 = .ok (.iadd, 1) := by decide +kernel
theorem dL_law_3163 : decode cL_law 3163 = .ok (.iaload, 1) := by decide +kernel
theorem dL_law_3164 : decode cL_law 3164 = .ok (.aload 4, 2) := by decide +kernel
theorem dL_law_3166 : decode cL_law 3166 = .ok (.invokestatic 289, 3) := by decide +kernel
theorem dL_law_3169 : decode cL_law 3169 = .ok (.istore 6, 2) := by decide +kernel
theorem dL_law_3171 : decode cL_law 3171 = .ok (.aload_n 2, 1) := by decide +kernel
theorem dL_law_3172 : decode cL_law 3172 = .ok (.aload_n 0, 1) := by decide +kernel
theorem dL_law_3173 : decode cL_law 3173 = .ok (.iload 5, 2) := by decide +kernel
theorem dL_law_3175 : decode cL_law 3175 = .ok (.iconst 1, 1) := by decide +kernel
theorem dL_law_3176 : decode cL_law 3176 = .ok (.iadd, 1) := by decide +kernel
theorem dL_law_3177 : decode cL_law 3177 = .ok (.iaload, 1) := by decide +kernel
theorem dL_law_3178 : decode cL_law 3178 = .ok (.invokevirtual 292, 3) := by decide +kernel
theorem dL_law_3181 : decode cL_law 3181 = .ok (.fstore 7, 2) := by decide +kernel
theorem dL_law_3183 : decode cL_law 3183 = .ok (.aload_n 2, 1) := by decide +kernel
theorem dL_law_3184 : decode cL_law 3184 = .ok (.invokevirtual 161, 3) := by decide +kernel
theorem dL_law_3187 : decode cL_law 3187 = .ok (.iload 6, 2) := by decide +kernel
theorem dL_law_3189 : decode cL_law 3189 = .ok (.if_icmp .eq 5, 3) := by decide +kernel
theorem dL_law_3192 : decode cL_law 3192 = .ok (.iconst 0, 1) := by decide +kernel
theorem dL_law_3193 : decode cL_law 3193 = .ok (.ireturn, 1) := by decide +kernel
theorem dL_law_3194 : decode cL_law 3194 = .ok (.iload 6, 2) := by decide +kernel
theorem dL_law_3196 : decode cL_law 3196 = .ok (.ifCond .ne 36, 3) := by decide +kernel
theorem dL_law_3199 : decode cL_law 3199 = .ok (.aload 4, 2) := by decide +kernel
theorem dL_law_3201 : decode cL_law 3201 = .ok (.iconst 0, 1) := by decide +kernel
theorem dL_law_3202 : decode cL_law 3202 = .ok (.daload, 1) := by decide +kernel
theorem dL_law_3203 : decode cL_law 3203 = .ok (.fload 7, 2) := by decide +kernel
theorem dL_law_3205 : decode cL_law 3205 = .ok (.f2d, 1) := by decide +kernel
theorem dL_law_3206 : decode cL_law 3206 = .ok (.dcmp .l, 1) := by decide +kernel
theorem dL_law_3207 : decode cL_law 3207 = .ok (.ifCond .eq 25, 3) := by decide +kernel
theorem dL_law_3210 : decode cL_law 3210 = .ok (.aload 4, 2) := by decide +kernel
theorem dL_law_3212 : decode cL_law 3212 = .ok (.iconst 0, 1) := by decide +kernel
theorem dL_law_3213 : decode cL_law 3213 = .ok (.daload, 1) := by decide +kernel
theorem dL_law_3214 : decode cL_law 3214 = .ok (.aload 4, 2) := by decide +kernel
theorem dL_law_3216 : decode cL_law 3216 = .ok (.iconst 0, 1) := by decide +kernel
theorem dL_law_3217 : decode cL_law 3217 = .ok (.daload, 1) := by decide +kernel
theorem dL_law_3218 : decode cL_law 3218 = .ok (.dcmp .l, 1) := by decide +kernel
theorem dL_law_3219 : decode cL_law 3219 = .ok (.ifCond .eq 11, 3) := by decide +kernel
theorem dL_law_3222 : decode cL_law 3222 = .ok (.fload 7, 2) := by decide +kernel
theorem dL_law_3224 : decode cL_law 3224 = .ok (.fload 7, 2) := by decide +kernel
theorem dL_law_3226 : decode cL_law 3226 = .ok (.fcmp .l, 1) := by decide +kernel
theorem dL_law_3227 : decode cL_law 3227 = .ok (.ifCond .ne 5, 3) := by decide +kernel
theorem dL_law_3230 : decode cL_law 3230 = .ok (.iconst 0, 1) := by decide +kernel
theorem dL_law_3231 : decode cL_law 3231 = .ok (.ireturn, 1) := by decide +kernel
theorem dL_law_3232 : decode cL_law 3232 = .ok (.goto 71, 3) := by decide +kernel
theorem dL_law_3235 : decode cL_law 3235 = .ok (.aload_n 1, 1) := by decide +kernel
theorem dL_law_3236 : decode cL_law 3236 = .ok (.invokevirtual 293, 3) := by decide +kernel
theorem dL_law_3239 : decode cL_law 3239 = .ok (.dstore 6, 2) := by decide +kernel
theorem dL_law_3241 : decode cL_law 3241 = .ok (.aload_n 2, 1) := by decide +kernel
theorem dL_law_3242 : decode cL_law 3242 = .ok (.invokevirtual 297, 3) := by decide +kernel
theorem dL_law_3245 : decode cL_law 3245 = .ok (.dstore 8, 2) := by decide +kernel
theorem dL_law_3247 : decode cL_law 3247 = .ok (.dload 6, 2) := by decide +kernel
theorem dL_law_3249 : decode cL_law 3249 = .ok (.dload 8, 2) := by decide +kernel
theorem dL_law_3251 : decode cL_law 3251 = .ok (.dcmp .l, 1) := by decide +kernel
theorem dL_law_3252 : decode cL_law 3252 = .ok (.ifCond .eq 21, 3) := by decide +kernel
theorem dL_law_3255 : decode cL_law 3255 = .ok (.dload 6, 2) := by decide +kernel
theorem dL_law_3257 : decode cL_law 3257 = .ok (.dload 6, 2) := by decide +kernel
theorem dL_law_3259 : decode cL_law 3259 = .ok (.dcmp .l, 1) := by decide +kernel
theorem dL_law_3260 : decode cL_law 3260 = .ok (.ifCond .eq 11, 3) := by decide +kernel
theorem dL_law_3263 : decode cL_law 3263 = .ok (.dload 8, 2) := by decide +kernel
theorem dL_law_3265 : decode cL_law 3265 = .ok (.dload 8, 2) := by decide +kernel
theorem dL_law_3267 : decode cL_law 3267 = .ok (.dcmp .l, 1) := by decide +kernel
theorem dL_law_3268 : decode cL_law 3268 = .ok (.ifCond .ne 5, 3) := by decide +kernel
theorem dL_law_3271 : decode cL_law 3271 = .ok (.iconst 0, 1) := by decide +kernel
theorem dL_law_3272 : decode cL_law 3272 = .ok (.ireturn, 1) := by decide +kernel
theorem dL_law_3273 : decode cL_law 3273 = .ok (.goto 30, 3) := by decide +kernel
theorem dL_law_3276 : decode cL_law 3276 = .ok (.aload_n 1, 1) := by decide +kernel
theorem dL_law_3277 : decode cL_law 3277 = .ok (.invokevirtual 298, 3) := by decide +kernel
theorem dL_law_3280 : decode cL_law 3280 = .ok (.aload_n 2, 1) := by decide +kernel
theorem dL_law_3281 : decode cL_law 3281 = .ok (.invokevirtual 302, 3) := by decide +kernel
theorem dL_law_3284 : decode cL_law 3284 = .ok (.lcmp, 1) := by decide +kernel
theorem dL_law_3285 : decode cL_law 3285 = .ok (.ifCond .eq 18, 3) := by decide +kernel
theorem dL_law_3288 : decode cL_law 3288 = .ok (.iconst 0, 1) := by decide +kernel
theorem dL_law_3289 : decode cL_law 3289 = .ok (.ireturn, 1) := by decide +kernel
theorem dL_law_3290 : decode cL_law 3290 = .ok (.aload_n 1, 1) := by decide +kernel
theorem dL_law_3291 : decode cL_law 3291 = .ok (.invokevirtual 303, 3) := by decide +kernel
theorem dL_law_3294 : decode cL_law 3294 = .ok (.aload_n 2, 1) := by decide +kernel
theorem dL_law_3295 : decode cL_law 3295 = .ok (.invokevirtual 307, 3) := by decide +kernel
theorem dL_law_3298 : decode cL_law 3298 = .ok (.if_icmp .eq 5, 3) := by decide +kernel
theorem dL_law_3301 : decode cL_law 3301 = .ok (.iconst 0, 1) := by decide +kernel
theorem dL_law_3302 : decode cL_law 3302 = .ok (.ireturn, 1) := by decide +kernel
theorem dL_law_3303 : decode cL_law 3303 = .ok (.iinc 5 6, 3) := by decide +kernel
theorem dL_law_3306 : decode cL_law 3306 = .ok (.goto (-3278), 3) := by decide +kernel
theorem dL_law_3309 : decode cL_law 3309 = .ok (.iconst 1, 1) := by decide +kernel
theorem dL_law_3310 : decode cL_law 3310 = .ok (.ireturn, 1) := by decide +kernel
